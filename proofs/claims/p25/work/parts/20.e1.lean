/-! EntryMasters.put([III)V -/
abbrev rm_X5_put : Room := { frames := 0, cells := 0, slots := 0, locals := 0 }
def X5_put_b14 (N : Nat) (f : Nat → Int32) : Option ((Nat → Int32)) :=
  some f
set_option maxHeartbeats 4000000 in
set_option maxRecDepth 100000 in
theorem X_X5_put_b14 {p : Program} {l : Launch} {e : Env} {s : State} {m : MethodId} {args : Array Value} {below : List Frame} {meth : Method} {c : Code} {D : va_G} {cI cZ cJ : ClassId} {w w0 : va_W} {q0 a N : Nat} (C : XC p rm_X5_put s m args meth c cX5_put 3 none RX5 wsX5_put D (t3 cI cZ cJ)) {f : Nat → Int32} {r : (Nat → Int32)} (hq : q0 < w.length) (h : X5_put_b14 N f = some r) : XW p l e rm_X5_put s m args below meth c D w0 3 (MQ below (QV D (t3 cI cZ cJ) w0 (w.set q0 (a, .inl (cI, N, .inl r))) s.heap.size) args s 0 0 (va_A w0 s.heap.size)) (w.set q0 (a, .inl (cI, N, .inl f))) 0 0 14 [] [] := by
  unfold X5_put_b14 at h
  obtain rfl := Option.some.inj h
  exact x_vret C dX5_put_14
def X5_put (N : Nat) (f : Nat → Int32) (x1 x2 : Int32) : Option ((Nat → Int32)) :=
  if x1 < 0 then (X5_put_b14 N f) else (if (Int32.ofNat N) ≤ x1 then (X5_put_b14 N f) else (if inB x1 N then (X5_put_b14 N (upd f x1.toNatClampNeg x2)) else none))
set_option maxHeartbeats 4000000 in
set_option maxRecDepth 100000 in
theorem X_X5_put {p : Program} {l : Launch} {e : Env} {s : State} {m : MethodId} {args : Array Value} {below : List Frame} {meth : Method} {c : Code} {D : va_G} {cI cZ cJ : ClassId} {w w0 : va_W} {q0 a N : Nat} (C : XC p rm_X5_put s m args meth c cX5_put 3 none RX5 wsX5_put D (t3 cI cZ cJ)) {f : Nat → Int32} {x1 x2 : Int32} {r : (Nat → Int32)} (hq : q0 < w.length) (h : X5_put N f x1 x2 = some r) : XW p l e rm_X5_put s m args below meth c D w0 3 (MQ below (QV D (t3 cI cZ cJ) w0 (w.set q0 (a, .inl (cI, N, .inl r))) s.heap.size) args s 0 0 (va_A w0 s.heap.size)) (w.set q0 (a, .inl (cI, N, .inl f))) 0 0 0 [(0, .ref a), (1, .int x1), (2, .int x2)] [] := by
  unfold X5_put at h
  refine x_iload_n C 1 dX5_put_0 rfl ?_
  refine x_if_lt C (t := 14) dX5_put_1 (by decide) (fun c1 => ?_) (fun c1 => ?_)
  · replace h := (if_pos c1).symm.trans h
    refine x_locals (lv' := []) [] rfl ?_
    exact X_X5_put_b14 C hq h
  · replace h := (if_neg c1).symm.trans h
    refine x_iload_n C 1 dX5_put_4 rfl ?_
    refine x_aload_n C 0 dX5_put_5 rfl ?_
    refine x_alen C q0 0 (set_at hq) rfl dX5_put_6 ?_
    refine x_icmp_ge C (t := 14) dX5_put_7 (by decide) (fun c7 => ?_) (fun c7 => ?_)
    · replace h := (if_pos c7).symm.trans h
      refine x_locals (lv' := []) [] rfl ?_
      exact X_X5_put_b14 C hq h
    · replace h := (if_neg c7).symm.trans h
      refine x_aload_n C 0 dX5_put_10 rfl ?_
      refine x_iload_n C 1 dX5_put_11 rfl ?_
      refine x_iload_n C 2 dX5_put_12 rfl ?_
      obtain ⟨g13, h⟩ := gdB h
      refine x_iast C q0 (set_at hq) g13 dX5_put_13 set_two ?_
      refine x_locals (lv' := []) [] rfl ?_
      exact X_X5_put_b14 C hq h
set_option maxRecDepth 100000 in
theorem c_X5_put {l : Launch} {D : va_G} {cI cZ cJ : ClassId} {w : va_W} {a N : Nat} {f : Nat → Int32} {x1 x2 : Int32} {r : (Nat → Int32)} (q0 : Nat) (hw : w[q0]? = some (a, .inl (cI, N, .inl f))) (h : X5_put N f x1 x2 = some r) : ∀ sz, Met l yX5_put wsX5_put rm_X5_put (PC D (t3 cI cZ cJ) [.ref a, .int x1, .int x2] w sz) (QV D (t3 cI cZ cJ) w (w.set q0 (a, .inl (cI, N, .inl r))) sz) 0 0 (va_A w sz) := by
  refine x_met (Qc := fun sz => QV D (t3 cI cZ cJ) w (w.set q0 (a, .inl (cI, N, .inl r))) sz) RX5 rfl (by decide) rfl (Nat.le_of_ble_eq_true rfl) (fun p e s m args below meth c C => ?_)
  refine x_eqw (set_self hw).symm ?_
  exact X_X5_put C (lt_of_at hw) h
/-! EntryMasters$Classes.define(III)V -/
abbrev rm_X0_define : Room := { frames := 1, cells := 0, slots := 0, locals := 22 }
theorem hi_X0_define_0 : ∀ z ∈ u_ws RX0 TX0 2, z ∈ wsX0_define := by decide +kernel
theorem lk_X0_define_9 : Cond.fieldLink RX0 9 RX0 "needed" "[I" ∈ wsX0_define := by decide +kernel
theorem lk_X0_define_15 : Cond.fieldLink RX0 15 RX0 "allowed" "[I" ∈ wsX0_define := by decide +kernel
theorem cw_X0_define_X5_put_24 {p : Program} {s : State} {m : MethodId} {args : Array Value} {meth : Method} {c : Code} {D : va_G} {tys : List (ClassId × FieldType)} {R : Room} (C : XC p R s m args meth c cX0_define 4 none RX0 wsX0_define D tys) : va_CN rm_X0_define s args RX0 24 yX5_put RX5 cX5_put 3 none wsX5_put rm_X5_put 0 0 3 ∧ (Cond.static yX5_put).before args s = true ∧ True := ⟨va_cnB 3 C.2.2.2.2.1 gX0_define_X5_put_n24 rfl rfl rfl (C.2.2.2.2.2.2.1.1 _ (nm_mem 2 rfl)) (C.2.2.2.2.1 (.initialized RX5) (by decide +kernel)) (by decide +kernel) ⟨Nat.le_of_ble_eq_true rfl, Nat.le_of_ble_eq_true rfl⟩, C.2.2.2.2.1 (.static yX5_put) (by decide +kernel), trivial⟩
def X0_define_b20 (S : St) : Option (St) :=
  some S
set_option maxHeartbeats 4000000 in
set_option maxRecDepth 100000 in
theorem X_X0_define_b20 {p : Program} {l : Launch} {e : Env} {s : State} {m : MethodId} {args : Array Value} {below : List Frame} {meth : Method} {c : Code} {D : va_G} {cI cZ cJ : ClassId} {ad : Nat → Nat} {rest w0 : va_W} (C : XC p rm_X0_define s m args meth c cX0_define 4 none RX0 wsX0_define D (t3 cI cZ cJ)) {S : St} {r : St} (h : X0_define_b20 S = some r) : XW p l e rm_X0_define s m args below meth c D w0 4 (MQ below (QV D (t3 cI cZ cJ) w0 (wE cI cZ ad r rest) s.heap.size) args s 0 0 (va_A w0 s.heap.size)) (wE cI cZ ad S rest) 0 0 20 [] [] := by
  unfold X0_define_b20 at h
  obtain rfl := Option.some.inj h
  exact x_vret C dX0_define_20
def X0_define_b9 (S : St) (x1 x2 x3 : Int32) : Option (St) :=
  (X5_put 3 (S 23) x1 (x3 ||| x2)).bind fun f17 => X0_define_b20 (up S 23 f17)
set_option maxHeartbeats 4000000 in
set_option maxRecDepth 100000 in
theorem X_X0_define_b9 {p : Program} {l : Launch} {e : Env} {s : State} {m : MethodId} {args : Array Value} {below : List Frame} {meth : Method} {c : Code} {D : va_G} {cI cZ cJ : ClassId} {ad : Nat → Nat} {rest w0 : va_W} (C : XC p rm_X0_define s m args meth c cX0_define 4 none RX0 wsX0_define D (t3 cI cZ cJ)) {S : St} {x1 x2 x3 : Int32} {r : St} (h : X0_define_b9 S x1 x2 x3 = some r) : XW p l e rm_X0_define s m args below meth c D w0 4 (MQ below (QV D (t3 cI cZ cJ) w0 (wE cI cZ ad r rest) s.heap.size) args s 0 0 (va_A w0 s.heap.size)) (wE cI cZ ad S rest) 0 0 9 [(0, .ref (ad 21)), (1, .int x1), (2, .int x2), (3, .int x3)] [] := by
  unfold X0_define_b9 at h
  refine x_aload_n C 0 dX0_define_9 rfl ?_
  refine x_get C (R' := RX0) (T := TX0) (N := 2) (ci := 0) 21 1 rfl rfl (by decide) rfl rfl hi_X0_define_0 lk_X0_define_15 dX0_define_10 ?_
  refine x_iload_n C 1 dX0_define_13 rfl ?_
  refine x_iload_n C 3 dX0_define_14 rfl ?_
  refine x_iload_n C 2 dX0_define_15 rfl ?_
  refine x_ior C dX0_define_16 ?_
  obtain ⟨f17, hg17, h⟩ := ob h
  refine x_cv0 (x_runSN C (As := [.ref (ad 23), .int x1, .int (x3 ||| x2)]) (rest := []) (c_X5_put 23 rfl hg17) (cw_X0_define_X5_put_24 C) rfl (Nat.le_of_ble_eq_true rfl) dX0_define_17 ⟨Nat.zero_le _, Nat.zero_le _⟩) ?_
  refine x_eqw (wE_s23 cI cZ ad S rest f17) ?_
  refine x_locals (lv' := []) [] rfl ?_
  exact X_X0_define_b20 C h
def X0_define (S : St) (x1 x2 x3 : Int32) : Option (St) :=
  (X5_put 3 (S 22) x1 x2).bind fun f6 => X0_define_b9 (up S 22 f6) x1 x2 x3
set_option maxHeartbeats 4000000 in
set_option maxRecDepth 100000 in
theorem X_X0_define {p : Program} {l : Launch} {e : Env} {s : State} {m : MethodId} {args : Array Value} {below : List Frame} {meth : Method} {c : Code} {D : va_G} {cI cZ cJ : ClassId} {ad : Nat → Nat} {rest w0 : va_W} (C : XC p rm_X0_define s m args meth c cX0_define 4 none RX0 wsX0_define D (t3 cI cZ cJ)) {S : St} {x1 x2 x3 : Int32} {r : St} (h : X0_define S x1 x2 x3 = some r) : XW p l e rm_X0_define s m args below meth c D w0 4 (MQ below (QV D (t3 cI cZ cJ) w0 (wE cI cZ ad r rest) s.heap.size) args s 0 0 (va_A w0 s.heap.size)) (wE cI cZ ad S rest) 0 0 0 [(0, .ref (ad 21)), (1, .int x1), (2, .int x2), (3, .int x3)] [] := by
  unfold X0_define at h
  refine x_aload_n C 0 dX0_define_0 rfl ?_
  refine x_get C (R' := RX0) (T := TX0) (N := 2) (ci := 0) 21 0 rfl rfl (by decide) rfl rfl hi_X0_define_0 lk_X0_define_9 dX0_define_1 ?_
  refine x_iload_n C 1 dX0_define_4 rfl ?_
  refine x_iload_n C 2 dX0_define_5 rfl ?_
  obtain ⟨f6, hg6, h⟩ := ob h
  refine x_cv0 (x_runSN C (As := [.ref (ad 22), .int x1, .int x2]) (rest := []) (c_X5_put 22 rfl hg6) (cw_X0_define_X5_put_24 C) rfl (Nat.le_of_ble_eq_true rfl) dX0_define_6 ⟨Nat.zero_le _, Nat.zero_le _⟩) ?_
  refine x_eqw (wE_s22 cI cZ ad S rest f6) ?_
  exact X_X0_define_b9 C h
set_option maxRecDepth 100000 in
theorem c_X0_define {l : Launch} {D : va_G} {cI cZ cJ : ClassId} {ad : Nat → Nat} {S : St} {rest : va_W} {x1 x2 x3 : Int32} {r : St} (h : X0_define S x1 x2 x3 = some r) : ∀ sz, Met l yX0_define wsX0_define rm_X0_define (PC D (t3 cI cZ cJ) [.ref (ad 21), .int x1, .int x2, .int x3] (wE cI cZ ad S rest) sz) (QV D (t3 cI cZ cJ) (wE cI cZ ad S rest) (wE cI cZ ad r rest) sz) 0 0 (va_A (wE cI cZ ad S rest) sz) := by
  refine x_met (Qc := fun sz => QV D (t3 cI cZ cJ) (wE cI cZ ad S rest) (wE cI cZ ad r rest) sz) RX0 rfl (by decide) rfl (Nat.le_of_ble_eq_true rfl) (fun p e s m args below meth c C => ?_)
  exact X_X0_define C h
/-! EntryMasters$Classes.hasBit(II)Z -/
abbrev rm_X0_hasBit : Room := { frames := 0, cells := 0, slots := 0, locals := 0 }
def X0_hasBit_b14  (s0 : Int32) : Option (Int32) :=
  if s0 &&& 1 = s0 then (some s0) else none
set_option maxHeartbeats 4000000 in
set_option maxRecDepth 100000 in
theorem X_X0_hasBit_b14 {p : Program} {l : Launch} {e : Env} {s : State} {m : MethodId} {args : Array Value} {below : List Frame} {meth : Method} {c : Code} {D : va_G} {cI cZ cJ : ClassId} {w w0 : va_W} (C : XC p rm_X0_hasBit s m args meth c cX0_hasBit 2 (some .boolean) RX0 wsX0_hasBit D (t3 cI cZ cJ)) {s0 : Int32} {r : Int32} (h : X0_hasBit_b14 s0 = some r) : XW p l e rm_X0_hasBit s m args below meth c D w0 2 (MQ below (QI D (t3 cI cZ cJ) w0 w s.heap.size r) args s 0 0 (va_A w0 s.heap.size)) w 0 0 14 [] [.int s0] := by
  unfold X0_hasBit_b14 at h
  obtain ⟨g14, h⟩ := gd h
  obtain rfl := Option.some.inj h
  exact x_zret C g14 dX0_hasBit_14
def X0_hasBit  (x0 x1 : Int32) : Option (Int32) :=
  if ((x0 >>> (x1 &&& 31)) &&& 1) = 1 then (X0_hasBit_b14 1) else (X0_hasBit_b14 0)
set_option maxHeartbeats 4000000 in
set_option maxRecDepth 100000 in
theorem X_X0_hasBit {p : Program} {l : Launch} {e : Env} {s : State} {m : MethodId} {args : Array Value} {below : List Frame} {meth : Method} {c : Code} {D : va_G} {cI cZ cJ : ClassId} {w w0 : va_W} (C : XC p rm_X0_hasBit s m args meth c cX0_hasBit 2 (some .boolean) RX0 wsX0_hasBit D (t3 cI cZ cJ)) {x0 x1 : Int32} {r : Int32} (h : X0_hasBit x0 x1 = some r) : XW p l e rm_X0_hasBit s m args below meth c D w0 2 (MQ below (QI D (t3 cI cZ cJ) w0 w s.heap.size r) args s 0 0 (va_A w0 s.heap.size)) w 0 0 0 [(0, .int x0), (1, .int x1)] [] := by
  unfold X0_hasBit at h
  refine x_iload_n C 0 dX0_hasBit_0 rfl ?_
  refine x_iload_n C 1 dX0_hasBit_1 rfl ?_
  refine x_ishr C dX0_hasBit_2 ?_
  refine x_iconst C (v := 1) dX0_hasBit_3 (by decide) ?_
  refine x_iand C dX0_hasBit_4 ?_
  refine x_iconst C (v := 1) dX0_hasBit_5 (by decide) ?_
  refine x_icmp_ne C (t := 13) dX0_hasBit_6 (by decide) (fun c6 => ?_) (fun c6 => ?_)
  · replace h := (if_neg c6).symm.trans h
    refine x_iconst C (v := 0) dX0_hasBit_13 (by decide) ?_
    refine x_locals (lv' := []) [] rfl ?_
    exact X_X0_hasBit_b14 C h
  · replace h := (if_pos c6).symm.trans h
    refine x_iconst C (v := 1) dX0_hasBit_9 (by decide) ?_
    refine x_goto C (t := 14) dX0_hasBit_10 (by decide) ?_
    refine x_locals (lv' := []) [] rfl ?_
    exact X_X0_hasBit_b14 C h
set_option maxRecDepth 100000 in
theorem c_X0_hasBit {l : Launch} {D : va_G} {cI cZ cJ : ClassId} {w : va_W} {x0 x1 : Int32} {r : Int32} (h : X0_hasBit x0 x1 = some r) : ∀ sz, Met l yX0_hasBit wsX0_hasBit rm_X0_hasBit (PC D (t3 cI cZ cJ) [.int x0, .int x1] w sz) (QI D (t3 cI cZ cJ) w w sz r) 0 0 (va_A w sz) := by
  refine x_met (Qc := fun sz => QI D (t3 cI cZ cJ) w w sz r) RX0 rfl (by decide) rfl (Nat.le_of_ble_eq_true rfl) (fun p e s m args below meth c C => ?_)
  exact X_X0_hasBit C h
/-! EntryMasters$Classes.needs(II)Z -/
abbrev rm_X0_needs : Room := { frames := 1, cells := 0, slots := 0, locals := 21 }
theorem hi_X0_needs_0 : ∀ z ∈ u_ws RX0 TX0 2, z ∈ wsX0_needs := by decide +kernel
theorem lk_X0_needs_9 : Cond.fieldLink RX0 9 RX0 "needed" "[I" ∈ wsX0_needs := by decide +kernel
theorem cw_X0_needs_X0_hasBit_28 {p : Program} {s : State} {m : MethodId} {args : Array Value} {meth : Method} {c : Code} {D : va_G} {tys : List (ClassId × FieldType)} {R : Room} (C : XC p R s m args meth c cX0_needs 3 (some .boolean) RX0 wsX0_needs D tys) : CallB rm_X0_needs s args RX0 28 yX0_hasBit cX0_hasBit 2 (some .boolean) wsX0_hasBit rm_X0_hasBit 0 0 2 ∧ (Cond.static yX0_hasBit).before args s = true := va_cwS 2 C.2.2.2.2.1 gX0_needs_X0_hasBit rfl rfl rfl (by decide +kernel) ⟨Nat.le_of_ble_eq_true rfl, Nat.le_of_ble_eq_true rfl⟩
def X0_needs_b27 (S : St) (s0 : Int32) : Option (Int32) :=
  if s0 &&& 1 = s0 then (some s0) else none
set_option maxHeartbeats 4000000 in
set_option maxRecDepth 100000 in
theorem X_X0_needs_b27 {p : Program} {l : Launch} {e : Env} {s : State} {m : MethodId} {args : Array Value} {below : List Frame} {meth : Method} {c : Code} {D : va_G} {cI cZ cJ : ClassId} {ad : Nat → Nat} {rest w0 : va_W} (C : XC p rm_X0_needs s m args meth c cX0_needs 3 (some .boolean) RX0 wsX0_needs D (t3 cI cZ cJ)) {S : St} {s0 : Int32} {r : Int32} (h : X0_needs_b27 S s0 = some r) : XW p l e rm_X0_needs s m args below meth c D w0 3 (MQ below (QI D (t3 cI cZ cJ) w0 (wE cI cZ ad S rest) s.heap.size r) args s 0 0 (va_A w0 s.heap.size)) (wE cI cZ ad S rest) 0 0 27 [] [.int s0] := by
  unfold X0_needs_b27 at h
  obtain ⟨g27, h⟩ := gd h
  obtain rfl := Option.some.inj h
  exact x_zret C g27 dX0_needs_27
def X0_needs_b26 (S : St) : Option (Int32) :=
  X0_needs_b27 S 0
set_option maxHeartbeats 4000000 in
set_option maxRecDepth 100000 in
theorem X_X0_needs_b26 {p : Program} {l : Launch} {e : Env} {s : State} {m : MethodId} {args : Array Value} {below : List Frame} {meth : Method} {c : Code} {D : va_G} {cI cZ cJ : ClassId} {ad : Nat → Nat} {rest w0 : va_W} (C : XC p rm_X0_needs s m args meth c cX0_needs 3 (some .boolean) RX0 wsX0_needs D (t3 cI cZ cJ)) {S : St} {r : Int32} (h : X0_needs_b26 S = some r) : XW p l e rm_X0_needs s m args below meth c D w0 3 (MQ below (QI D (t3 cI cZ cJ) w0 (wE cI cZ ad S rest) s.heap.size r) args s 0 0 (va_A w0 s.heap.size)) (wE cI cZ ad S rest) 0 0 26 [] [] := by
  unfold X0_needs_b26 at h
  refine x_iconst C (v := 0) dX0_needs_26 (by decide) ?_
  exact X_X0_needs_b27 C h
def X0_needs (S : St) (x1 x2 : Int32) : Option (Int32) :=
  if x1 < 0 then (X0_needs_b26 S) else (if 3 ≤ x1 then (X0_needs_b26 S) else (if inB x1 3 then ((X0_hasBit (S 22 x1.toNatClampNeg) x2).bind fun v16 => if v16 = 0 then (X0_needs_b26 S) else (X0_needs_b27 S 1)) else none))
set_option maxHeartbeats 4000000 in
set_option maxRecDepth 100000 in
theorem X_X0_needs {p : Program} {l : Launch} {e : Env} {s : State} {m : MethodId} {args : Array Value} {below : List Frame} {meth : Method} {c : Code} {D : va_G} {cI cZ cJ : ClassId} {ad : Nat → Nat} {rest w0 : va_W} (C : XC p rm_X0_needs s m args meth c cX0_needs 3 (some .boolean) RX0 wsX0_needs D (t3 cI cZ cJ)) {S : St} {x1 x2 : Int32} {r : Int32} (h : X0_needs S x1 x2 = some r) : XW p l e rm_X0_needs s m args below meth c D w0 3 (MQ below (QI D (t3 cI cZ cJ) w0 (wE cI cZ ad S rest) s.heap.size r) args s 0 0 (va_A w0 s.heap.size)) (wE cI cZ ad S rest) 0 0 0 [(0, .ref (ad 21)), (1, .int x1), (2, .int x2)] [] := by
  unfold X0_needs at h
  refine x_iload_n C 1 dX0_needs_0 rfl ?_
  refine x_if_lt C (t := 26) dX0_needs_1 (by decide) (fun c1 => ?_) (fun c1 => ?_)
  · replace h := (if_pos c1).symm.trans h
    refine x_locals (lv' := []) [] rfl ?_
    exact X_X0_needs_b26 C h
  · replace h := (if_neg c1).symm.trans h
    refine x_iload_n C 1 dX0_needs_4 rfl ?_
    refine x_iconst C (v := 3) dX0_needs_5 (by decide) ?_
    refine x_icmp_ge C (t := 26) dX0_needs_6 (by decide) (fun c6 => ?_) (fun c6 => ?_)
    · replace h := (if_pos c6).symm.trans h
      refine x_locals (lv' := []) [] rfl ?_
      exact X_X0_needs_b26 C h
    · replace h := (if_neg c6).symm.trans h
      refine x_aload_n C 0 dX0_needs_9 rfl ?_
      refine x_get C (R' := RX0) (T := TX0) (N := 2) (ci := 0) 21 0 rfl rfl (by decide) rfl rfl hi_X0_needs_0 lk_X0_needs_9 dX0_needs_10 ?_
      refine x_iload_n C 1 dX0_needs_13 rfl ?_
      obtain ⟨g14, h⟩ := gdB h
      refine x_iald C 22 rfl g14 dX0_needs_14 ?_
      refine x_iload_n C 2 dX0_needs_15 rfl ?_
      obtain ⟨v16, hg16, h⟩ := ob h
      refine x_ci0 (x_runS C (As := [.int (S 22 x1.toNatClampNeg), .int x2]) (rest := []) (c_X0_hasBit hg16) (cw_X0_needs_X0_hasBit_28 C) rfl (Nat.le_of_ble_eq_true rfl) dX0_needs_16 ⟨Nat.zero_le _, Nat.zero_le _⟩) ?_
      refine x_if_eq C (t := 26) dX0_needs_19 (by decide) (fun c19 => ?_) (fun c19 => ?_)
      · replace h := (if_pos c19).symm.trans h
        refine x_locals (lv' := []) [] rfl ?_
        exact X_X0_needs_b26 C h
      · replace h := (if_neg c19).symm.trans h
        refine x_iconst C (v := 1) dX0_needs_22 (by decide) ?_
        refine x_goto C (t := 27) dX0_needs_23 (by decide) ?_
        refine x_locals (lv' := []) [] rfl ?_
        exact X_X0_needs_b27 C h
set_option maxRecDepth 100000 in
theorem c_X0_needs {l : Launch} {D : va_G} {cI cZ cJ : ClassId} {ad : Nat → Nat} {S : St} {rest : va_W} {x1 x2 : Int32} {r : Int32} (h : X0_needs S x1 x2 = some r) : ∀ sz, Met l yX0_needs wsX0_needs rm_X0_needs (PC D (t3 cI cZ cJ) [.ref (ad 21), .int x1, .int x2] (wE cI cZ ad S rest) sz) (QI D (t3 cI cZ cJ) (wE cI cZ ad S rest) (wE cI cZ ad S rest) sz r) 0 0 (va_A (wE cI cZ ad S rest) sz) := by
  refine x_met (Qc := fun sz => QI D (t3 cI cZ cJ) (wE cI cZ ad S rest) (wE cI cZ ad S rest) sz r) RX0 rfl (by decide) rfl (Nat.le_of_ble_eq_true rfl) (fun p e s m args below meth c C => ?_)
  exact X_X0_needs C h
/-! EntryMasters$Classes.allows(II)Z -/
abbrev rm_X0_allows : Room := { frames := 1, cells := 0, slots := 0, locals := 21 }
theorem hi_X0_allows_0 : ∀ z ∈ u_ws RX0 TX0 2, z ∈ wsX0_allows := by decide +kernel
theorem lk_X0_allows_15 : Cond.fieldLink RX0 15 RX0 "allowed" "[I" ∈ wsX0_allows := by decide +kernel
theorem cw_X0_allows_X0_hasBit_28 {p : Program} {s : State} {m : MethodId} {args : Array Value} {meth : Method} {c : Code} {D : va_G} {tys : List (ClassId × FieldType)} {R : Room} (C : XC p R s m args meth c cX0_allows 3 (some .boolean) RX0 wsX0_allows D tys) : CallB rm_X0_allows s args RX0 28 yX0_hasBit cX0_hasBit 2 (some .boolean) wsX0_hasBit rm_X0_hasBit 0 0 2 ∧ (Cond.static yX0_hasBit).before args s = true := va_cwS 2 C.2.2.2.2.1 gX0_allows_X0_hasBit rfl rfl rfl (by decide +kernel) ⟨Nat.le_of_ble_eq_true rfl, Nat.le_of_ble_eq_true rfl⟩
def X0_allows_b27 (S : St) (s0 : Int32) : Option (Int32) :=
  if s0 &&& 1 = s0 then (some s0) else none
set_option maxHeartbeats 4000000 in
set_option maxRecDepth 100000 in
theorem X_X0_allows_b27 {p : Program} {l : Launch} {e : Env} {s : State} {m : MethodId} {args : Array Value} {below : List Frame} {meth : Method} {c : Code} {D : va_G} {cI cZ cJ : ClassId} {ad : Nat → Nat} {rest w0 : va_W} (C : XC p rm_X0_allows s m args meth c cX0_allows 3 (some .boolean) RX0 wsX0_allows D (t3 cI cZ cJ)) {S : St} {s0 : Int32} {r : Int32} (h : X0_allows_b27 S s0 = some r) : XW p l e rm_X0_allows s m args below meth c D w0 3 (MQ below (QI D (t3 cI cZ cJ) w0 (wE cI cZ ad S rest) s.heap.size r) args s 0 0 (va_A w0 s.heap.size)) (wE cI cZ ad S rest) 0 0 27 [] [.int s0] := by
  unfold X0_allows_b27 at h
  obtain ⟨g27, h⟩ := gd h
  obtain rfl := Option.some.inj h
  exact x_zret C g27 dX0_allows_27
def X0_allows_b26 (S : St) : Option (Int32) :=
  X0_allows_b27 S 0
set_option maxHeartbeats 4000000 in
set_option maxRecDepth 100000 in
theorem X_X0_allows_b26 {p : Program} {l : Launch} {e : Env} {s : State} {m : MethodId} {args : Array Value} {below : List Frame} {meth : Method} {c : Code} {D : va_G} {cI cZ cJ : ClassId} {ad : Nat → Nat} {rest w0 : va_W} (C : XC p rm_X0_allows s m args meth c cX0_allows 3 (some .boolean) RX0 wsX0_allows D (t3 cI cZ cJ)) {S : St} {r : Int32} (h : X0_allows_b26 S = some r) : XW p l e rm_X0_allows s m args below meth c D w0 3 (MQ below (QI D (t3 cI cZ cJ) w0 (wE cI cZ ad S rest) s.heap.size r) args s 0 0 (va_A w0 s.heap.size)) (wE cI cZ ad S rest) 0 0 26 [] [] := by
  unfold X0_allows_b26 at h
  refine x_iconst C (v := 0) dX0_allows_26 (by decide) ?_
  exact X_X0_allows_b27 C h
def X0_allows (S : St) (x1 x2 : Int32) : Option (Int32) :=
  if x1 < 0 then (X0_allows_b26 S) else (if 3 ≤ x1 then (X0_allows_b26 S) else (if inB x1 3 then ((X0_hasBit (S 23 x1.toNatClampNeg) x2).bind fun v16 => if v16 = 0 then (X0_allows_b26 S) else (X0_allows_b27 S 1)) else none))
set_option maxHeartbeats 4000000 in
set_option maxRecDepth 100000 in
theorem X_X0_allows {p : Program} {l : Launch} {e : Env} {s : State} {m : MethodId} {args : Array Value} {below : List Frame} {meth : Method} {c : Code} {D : va_G} {cI cZ cJ : ClassId} {ad : Nat → Nat} {rest w0 : va_W} (C : XC p rm_X0_allows s m args meth c cX0_allows 3 (some .boolean) RX0 wsX0_allows D (t3 cI cZ cJ)) {S : St} {x1 x2 : Int32} {r : Int32} (h : X0_allows S x1 x2 = some r) : XW p l e rm_X0_allows s m args below meth c D w0 3 (MQ below (QI D (t3 cI cZ cJ) w0 (wE cI cZ ad S rest) s.heap.size r) args s 0 0 (va_A w0 s.heap.size)) (wE cI cZ ad S rest) 0 0 0 [(0, .ref (ad 21)), (1, .int x1), (2, .int x2)] [] := by
  unfold X0_allows at h
  refine x_iload_n C 1 dX0_allows_0 rfl ?_
  refine x_if_lt C (t := 26) dX0_allows_1 (by decide) (fun c1 => ?_) (fun c1 => ?_)
  · replace h := (if_pos c1).symm.trans h
    refine x_locals (lv' := []) [] rfl ?_
    exact X_X0_allows_b26 C h
  · replace h := (if_neg c1).symm.trans h
    refine x_iload_n C 1 dX0_allows_4 rfl ?_
    refine x_iconst C (v := 3) dX0_allows_5 (by decide) ?_
    refine x_icmp_ge C (t := 26) dX0_allows_6 (by decide) (fun c6 => ?_) (fun c6 => ?_)
    · replace h := (if_pos c6).symm.trans h
      refine x_locals (lv' := []) [] rfl ?_
      exact X_X0_allows_b26 C h
    · replace h := (if_neg c6).symm.trans h
      refine x_aload_n C 0 dX0_allows_9 rfl ?_
      refine x_get C (R' := RX0) (T := TX0) (N := 2) (ci := 0) 21 1 rfl rfl (by decide) rfl rfl hi_X0_allows_0 lk_X0_allows_15 dX0_allows_10 ?_
      refine x_iload_n C 1 dX0_allows_13 rfl ?_
      obtain ⟨g14, h⟩ := gdB h
      refine x_iald C 23 rfl g14 dX0_allows_14 ?_
      refine x_iload_n C 2 dX0_allows_15 rfl ?_
      obtain ⟨v16, hg16, h⟩ := ob h
      refine x_ci0 (x_runS C (As := [.int (S 23 x1.toNatClampNeg), .int x2]) (rest := []) (c_X0_hasBit hg16) (cw_X0_allows_X0_hasBit_28 C) rfl (Nat.le_of_ble_eq_true rfl) dX0_allows_16 ⟨Nat.zero_le _, Nat.zero_le _⟩) ?_
      refine x_if_eq C (t := 26) dX0_allows_19 (by decide) (fun c19 => ?_) (fun c19 => ?_)
      · replace h := (if_pos c19).symm.trans h
        refine x_locals (lv' := []) [] rfl ?_
        exact X_X0_allows_b26 C h
      · replace h := (if_neg c19).symm.trans h
        refine x_iconst C (v := 1) dX0_allows_22 (by decide) ?_
        refine x_goto C (t := 27) dX0_allows_23 (by decide) ?_
        refine x_locals (lv' := []) [] rfl ?_
        exact X_X0_allows_b27 C h
set_option maxRecDepth 100000 in
theorem c_X0_allows {l : Launch} {D : va_G} {cI cZ cJ : ClassId} {ad : Nat → Nat} {S : St} {rest : va_W} {x1 x2 : Int32} {r : Int32} (h : X0_allows S x1 x2 = some r) : ∀ sz, Met l yX0_allows wsX0_allows rm_X0_allows (PC D (t3 cI cZ cJ) [.ref (ad 21), .int x1, .int x2] (wE cI cZ ad S rest) sz) (QI D (t3 cI cZ cJ) (wE cI cZ ad S rest) (wE cI cZ ad S rest) sz r) 0 0 (va_A (wE cI cZ ad S rest) sz) := by
  refine x_met (Qc := fun sz => QI D (t3 cI cZ cJ) (wE cI cZ ad S rest) (wE cI cZ ad S rest) sz r) RX0 rfl (by decide) rfl (Nat.le_of_ble_eq_true rfl) (fun p e s m args below meth c C => ?_)
  exact X_X0_allows C h
/-! EntryMasters$Filters.append(III)I -/
abbrev rm_X1_append : Room := { frames := 1, cells := 0, slots := 0, locals := 22 }
theorem hi_X1_append_1 : ∀ z ∈ u_ws RX1 TX1 5, z ∈ wsX1_append := by decide +kernel
theorem lk_X1_append_9 : Cond.fieldLink RX1 9 RX1 "kinds" "[I" ∈ wsX1_append := by decide +kernel
theorem lk_X1_append_15 : Cond.fieldLink RX1 15 RX1 "firsts" "[I" ∈ wsX1_append := by decide +kernel
theorem lk_X1_append_18 : Cond.fieldLink RX1 18 RX1 "seconds" "[I" ∈ wsX1_append := by decide +kernel
theorem lk_X1_append_24 : Cond.fieldLink RX1 24 RX1 "count" "I" ∈ wsX1_append := by decide +kernel
theorem cw_X1_append_X5_put_28 {p : Program} {s : State} {m : MethodId} {args : Array Value} {meth : Method} {c : Code} {D : va_G} {tys : List (ClassId × FieldType)} {R : Room} (C : XC p R s m args meth c cX1_append 5 (some .int) RX1 wsX1_append D tys) : va_CN rm_X1_append s args RX1 28 yX5_put RX5 cX5_put 3 none wsX5_put rm_X5_put 0 0 3 ∧ (Cond.static yX5_put).before args s = true ∧ True := ⟨va_cnB 3 C.2.2.2.2.1 gX1_append_X5_put_n28 rfl rfl rfl (C.2.2.2.2.2.2.1.1 _ (nm_mem 3 rfl)) (C.2.2.2.2.1 (.initialized RX5) (by decide +kernel)) (by decide +kernel) ⟨Nat.le_of_ble_eq_true rfl, Nat.le_of_ble_eq_true rfl⟩, C.2.2.2.2.1 (.static yX5_put) (by decide +kernel), trivial⟩
def X1_append_b46 (S : St) (x4 : Int32) : Option (Int32 × St) :=
  some (x4, S)
set_option maxHeartbeats 4000000 in
set_option maxRecDepth 100000 in
theorem X_X1_append_b46 {p : Program} {l : Launch} {e : Env} {s : State} {m : MethodId} {args : Array Value} {below : List Frame} {meth : Method} {c : Code} {D : va_G} {cI cZ cJ : ClassId} {ad : Nat → Nat} {rest w0 : va_W} (C : XC p rm_X1_append s m args meth c cX1_append 5 (some .int) RX1 wsX1_append D (t3 cI cZ cJ)) {S : St} {x4 : Int32} {r : Int32 × St} (h : X1_append_b46 S x4 = some r) : XW p l e rm_X1_append s m args below meth c D w0 5 (MQ below (QI D (t3 cI cZ cJ) w0 (wE cI cZ ad r.2 rest) s.heap.size r.1) args s 0 0 (va_A w0 s.heap.size)) (wE cI cZ ad S rest) 0 0 46 [(4, .int x4)] [] := by
  unfold X1_append_b46 at h
  refine x_iload C 0 dX1_append_46 rfl ?_
  obtain rfl := Option.some.inj h
  exact x_iret C dX1_append_48
def X1_append_b36 (S : St) (x4 : Int32) : Option (Int32 × St) :=
  X1_append_b46 (up S 27 (upd (S 27) 4 ((S 27 4) + 1))) x4
set_option maxHeartbeats 4000000 in
set_option maxRecDepth 100000 in
theorem X_X1_append_b36 {p : Program} {l : Launch} {e : Env} {s : State} {m : MethodId} {args : Array Value} {below : List Frame} {meth : Method} {c : Code} {D : va_G} {cI cZ cJ : ClassId} {ad : Nat → Nat} {rest w0 : va_W} (C : XC p rm_X1_append s m args meth c cX1_append 5 (some .int) RX1 wsX1_append D (t3 cI cZ cJ)) {S : St} {x4 : Int32} {r : Int32 × St} (h : X1_append_b36 S x4 = some r) : XW p l e rm_X1_append s m args below meth c D w0 5 (MQ below (QI D (t3 cI cZ cJ) w0 (wE cI cZ ad r.2 rest) s.heap.size r.1) args s 0 0 (va_A w0 s.heap.size)) (wE cI cZ ad S rest) 0 0 36 [(0, .ref (ad 27)), (4, .int x4)] [] := by
  unfold X1_append_b36 at h
  refine x_aload_n C 0 dX1_append_36 rfl ?_
  refine x_dup C dX1_append_37 rfl ?_
  refine x_get C (R' := RX1) (T := TX1) (N := 5) (ci := 1) 27 4 rfl rfl (by decide) rfl rfl hi_X1_append_1 lk_X1_append_24 dX1_append_38 ?_
  refine x_iconst C (v := 1) dX1_append_41 (by decide) ?_
  refine x_iadd C dX1_append_42 ?_
  refine x_put C (R' := RX1) (T := TX1) (N := 5) (ci := 1) tyX1 tyX1_ok nmX1 27 4 rfl rfl (by decide) rfl rfl (lt_ble rfl) rfl hi_X1_append_1 lk_X1_append_24 dX1_append_43 (wE_f27_4 cI cZ ad S rest ((S 27 4) + 1)) ?_
  refine x_locals (lv' := [(4, .int x4)]) [1] rfl ?_
  exact X_X1_append_b46 C h
def X1_append_b26 (S : St) (x3 x4 : Int32) : Option (Int32 × St) :=
  (X5_put 20 (S 30) x4 x3).bind fun f33 => X1_append_b36 (up S 30 f33) x4
set_option maxHeartbeats 4000000 in
set_option maxRecDepth 100000 in
theorem X_X1_append_b26 {p : Program} {l : Launch} {e : Env} {s : State} {m : MethodId} {args : Array Value} {below : List Frame} {meth : Method} {c : Code} {D : va_G} {cI cZ cJ : ClassId} {ad : Nat → Nat} {rest w0 : va_W} (C : XC p rm_X1_append s m args meth c cX1_append 5 (some .int) RX1 wsX1_append D (t3 cI cZ cJ)) {S : St} {x3 x4 : Int32} {r : Int32 × St} (h : X1_append_b26 S x3 x4 = some r) : XW p l e rm_X1_append s m args below meth c D w0 5 (MQ below (QI D (t3 cI cZ cJ) w0 (wE cI cZ ad r.2 rest) s.heap.size r.1) args s 0 0 (va_A w0 s.heap.size)) (wE cI cZ ad S rest) 0 0 26 [(0, .ref (ad 27)), (3, .int x3), (4, .int x4)] [] := by
  unfold X1_append_b26 at h
  refine x_aload_n C 0 dX1_append_26 rfl ?_
  refine x_get C (R' := RX1) (T := TX1) (N := 5) (ci := 1) 27 2 rfl rfl (by decide) rfl rfl hi_X1_append_1 lk_X1_append_18 dX1_append_27 ?_
  refine x_iload C 2 dX1_append_30 rfl ?_
  refine x_iload_n C 1 dX1_append_32 rfl ?_
  obtain ⟨f33, hg33, h⟩ := ob h
  refine x_cv0 (x_runSN C (As := [.ref (ad 30), .int x4, .int x3]) (rest := []) (c_X5_put 30 rfl hg33) (cw_X1_append_X5_put_28 C) rfl (Nat.le_of_ble_eq_true rfl) dX1_append_33 ⟨Nat.zero_le _, Nat.zero_le _⟩) ?_
  refine x_eqw (wE_s30 cI cZ ad S rest f33) ?_
  refine x_locals (lv' := [(0, .ref (ad 27)), (4, .int x4)]) [0, 2] rfl ?_
  exact X_X1_append_b36 C h
def X1_append_b16 (S : St) (x2 x3 x4 : Int32) : Option (Int32 × St) :=
  (X5_put 20 (S 29) x4 x2).bind fun f23 => X1_append_b26 (up S 29 f23) x3 x4
set_option maxHeartbeats 4000000 in
set_option maxRecDepth 100000 in
theorem X_X1_append_b16 {p : Program} {l : Launch} {e : Env} {s : State} {m : MethodId} {args : Array Value} {below : List Frame} {meth : Method} {c : Code} {D : va_G} {cI cZ cJ : ClassId} {ad : Nat → Nat} {rest w0 : va_W} (C : XC p rm_X1_append s m args meth c cX1_append 5 (some .int) RX1 wsX1_append D (t3 cI cZ cJ)) {S : St} {x2 x3 x4 : Int32} {r : Int32 × St} (h : X1_append_b16 S x2 x3 x4 = some r) : XW p l e rm_X1_append s m args below meth c D w0 5 (MQ below (QI D (t3 cI cZ cJ) w0 (wE cI cZ ad r.2 rest) s.heap.size r.1) args s 0 0 (va_A w0 s.heap.size)) (wE cI cZ ad S rest) 0 0 16 [(0, .ref (ad 27)), (2, .int x2), (3, .int x3), (4, .int x4)] [] := by
  unfold X1_append_b16 at h
  refine x_aload_n C 0 dX1_append_16 rfl ?_
  refine x_get C (R' := RX1) (T := TX1) (N := 5) (ci := 1) 27 1 rfl rfl (by decide) rfl rfl hi_X1_append_1 lk_X1_append_15 dX1_append_17 ?_
  refine x_iload C 3 dX1_append_20 rfl ?_
  refine x_iload_n C 1 dX1_append_22 rfl ?_
  obtain ⟨f23, hg23, h⟩ := ob h
  refine x_cv0 (x_runSN C (As := [.ref (ad 29), .int x4, .int x2]) (rest := []) (c_X5_put 29 rfl hg23) (cw_X1_append_X5_put_28 C) rfl (Nat.le_of_ble_eq_true rfl) dX1_append_23 ⟨Nat.zero_le _, Nat.zero_le _⟩) ?_
  refine x_eqw (wE_s29 cI cZ ad S rest f23) ?_
  refine x_locals (lv' := [(0, .ref (ad 27)), (3, .int x3), (4, .int x4)]) [0, 2, 3] rfl ?_
  exact X_X1_append_b26 C h
def X1_append (S : St) (x1 x2 x3 : Int32) : Option (Int32 × St) :=
  (X5_put 20 (S 28) (S 27 4) x1).bind fun f13 => X1_append_b16 (up S 28 f13) x2 x3 (S 27 4)
set_option maxHeartbeats 4000000 in
set_option maxRecDepth 100000 in
theorem X_X1_append {p : Program} {l : Launch} {e : Env} {s : State} {m : MethodId} {args : Array Value} {below : List Frame} {meth : Method} {c : Code} {D : va_G} {cI cZ cJ : ClassId} {ad : Nat → Nat} {rest w0 : va_W} (C : XC p rm_X1_append s m args meth c cX1_append 5 (some .int) RX1 wsX1_append D (t3 cI cZ cJ)) {S : St} {x1 x2 x3 : Int32} {r : Int32 × St} (h : X1_append S x1 x2 x3 = some r) : XW p l e rm_X1_append s m args below meth c D w0 5 (MQ below (QI D (t3 cI cZ cJ) w0 (wE cI cZ ad r.2 rest) s.heap.size r.1) args s 0 0 (va_A w0 s.heap.size)) (wE cI cZ ad S rest) 0 0 0 [(0, .ref (ad 27)), (1, .int x1), (2, .int x2), (3, .int x3)] [] := by
  unfold X1_append at h
  refine x_aload_n C 0 dX1_append_0 rfl ?_
  refine x_get C (R' := RX1) (T := TX1) (N := 5) (ci := 1) 27 4 rfl rfl (by decide) rfl rfl hi_X1_append_1 lk_X1_append_24 dX1_append_1 ?_
  refine x_istore C (lv' := [(0, .ref (ad 27)), (1, .int x1), (2, .int x2), (3, .int x3), (4, .int (S 27 4))]) dX1_append_4 (by decide) rfl ?_
  refine x_aload_n C 0 dX1_append_6 rfl ?_
  refine x_get C (R' := RX1) (T := TX1) (N := 5) (ci := 1) 27 0 rfl rfl (by decide) rfl rfl hi_X1_append_1 lk_X1_append_9 dX1_append_7 ?_
  refine x_iload C 4 dX1_append_10 rfl ?_
  refine x_iload_n C 1 dX1_append_12 rfl ?_
  obtain ⟨f13, hg13, h⟩ := ob h
  refine x_cv0 (x_runSN C (As := [.ref (ad 28), .int (S 27 4), .int x1]) (rest := []) (c_X5_put 28 rfl hg13) (cw_X1_append_X5_put_28 C) rfl (Nat.le_of_ble_eq_true rfl) dX1_append_13 ⟨Nat.zero_le _, Nat.zero_le _⟩) ?_
  refine x_eqw (wE_s28 cI cZ ad S rest f13) ?_
  refine x_locals (lv' := [(0, .ref (ad 27)), (2, .int x2), (3, .int x3), (4, .int (S 27 4))]) [0, 2, 3, 4] rfl ?_
  exact X_X1_append_b16 C h
set_option maxRecDepth 100000 in
theorem c_X1_append {l : Launch} {D : va_G} {cI cZ cJ : ClassId} {ad : Nat → Nat} {S : St} {rest : va_W} {x1 x2 x3 : Int32} {r : Int32 × St} (h : X1_append S x1 x2 x3 = some r) : ∀ sz, Met l yX1_append wsX1_append rm_X1_append (PC D (t3 cI cZ cJ) [.ref (ad 27), .int x1, .int x2, .int x3] (wE cI cZ ad S rest) sz) (QI D (t3 cI cZ cJ) (wE cI cZ ad S rest) (wE cI cZ ad r.2 rest) sz r.1) 0 0 (va_A (wE cI cZ ad S rest) sz) := by
  refine x_met (Qc := fun sz => QI D (t3 cI cZ cJ) (wE cI cZ ad S rest) (wE cI cZ ad r.2 rest) sz r.1) RX1 rfl (by decide) rfl (Nat.le_of_ble_eq_true rfl) (fun p e s m args below meth c C => ?_)
  exact X_X1_append C h
/-! EntryMasters.at([II)I -/
abbrev rm_X5_at : Room := { frames := 0, cells := 0, slots := 0, locals := 0 }
def X5_at_b17 (N : Nat) (f : Nat → Int32) (s0 : Int32) : Option (Int32) :=
  some s0
set_option maxHeartbeats 4000000 in
set_option maxRecDepth 100000 in
theorem X_X5_at_b17 {p : Program} {l : Launch} {e : Env} {s : State} {m : MethodId} {args : Array Value} {below : List Frame} {meth : Method} {c : Code} {D : va_G} {cI cZ cJ : ClassId} {w w0 : va_W} {q0 a N : Nat} (C : XC p rm_X5_at s m args meth c cX5_at 2 (some .int) RX5 wsX5_at D (t3 cI cZ cJ)) {f : Nat → Int32} {s0 : Int32} {r : Int32} (hw : w[q0]? = some (a, .inl (cI, N, .inl f))) (h : X5_at_b17 N f s0 = some r) : XW p l e rm_X5_at s m args below meth c D w0 2 (MQ below (QI D (t3 cI cZ cJ) w0 w s.heap.size r) args s 0 0 (va_A w0 s.heap.size)) w 0 0 17 [] [.int s0] := by
  unfold X5_at_b17 at h
  obtain rfl := Option.some.inj h
  exact x_iret C dX5_at_17
def X5_at_b16 (N : Nat) (f : Nat → Int32) : Option (Int32) :=
  X5_at_b17 N f (-1)
set_option maxHeartbeats 4000000 in
set_option maxRecDepth 100000 in
theorem X_X5_at_b16 {p : Program} {l : Launch} {e : Env} {s : State} {m : MethodId} {args : Array Value} {below : List Frame} {meth : Method} {c : Code} {D : va_G} {cI cZ cJ : ClassId} {w w0 : va_W} {q0 a N : Nat} (C : XC p rm_X5_at s m args meth c cX5_at 2 (some .int) RX5 wsX5_at D (t3 cI cZ cJ)) {f : Nat → Int32} {r : Int32} (hw : w[q0]? = some (a, .inl (cI, N, .inl f))) (h : X5_at_b16 N f = some r) : XW p l e rm_X5_at s m args below meth c D w0 2 (MQ below (QI D (t3 cI cZ cJ) w0 w s.heap.size r) args s 0 0 (va_A w0 s.heap.size)) w 0 0 16 [] [] := by
  unfold X5_at_b16 at h
  refine x_iconst C (v := (-1)) dX5_at_16 (by decide) ?_
  exact X_X5_at_b17 C hw h
def X5_at (N : Nat) (f : Nat → Int32) (x1 : Int32) : Option (Int32) :=
  if x1 < 0 then (X5_at_b16 N f) else (if (Int32.ofNat N) ≤ x1 then (X5_at_b16 N f) else (if inB x1 N then (X5_at_b17 N f (f x1.toNatClampNeg)) else none))
set_option maxHeartbeats 4000000 in
set_option maxRecDepth 100000 in
theorem X_X5_at {p : Program} {l : Launch} {e : Env} {s : State} {m : MethodId} {args : Array Value} {below : List Frame} {meth : Method} {c : Code} {D : va_G} {cI cZ cJ : ClassId} {w w0 : va_W} {q0 a N : Nat} (C : XC p rm_X5_at s m args meth c cX5_at 2 (some .int) RX5 wsX5_at D (t3 cI cZ cJ)) {f : Nat → Int32} {x1 : Int32} {r : Int32} (hw : w[q0]? = some (a, .inl (cI, N, .inl f))) (h : X5_at N f x1 = some r) : XW p l e rm_X5_at s m args below meth c D w0 2 (MQ below (QI D (t3 cI cZ cJ) w0 w s.heap.size r) args s 0 0 (va_A w0 s.heap.size)) w 0 0 0 [(0, .ref a), (1, .int x1)] [] := by
  unfold X5_at at h
  refine x_iload_n C 1 dX5_at_0 rfl ?_
  refine x_if_lt C (t := 16) dX5_at_1 (by decide) (fun c1 => ?_) (fun c1 => ?_)
  · replace h := (if_pos c1).symm.trans h
    refine x_locals (lv' := []) [] rfl ?_
    exact X_X5_at_b16 C hw h
  · replace h := (if_neg c1).symm.trans h
    refine x_iload_n C 1 dX5_at_4 rfl ?_
    refine x_aload_n C 0 dX5_at_5 rfl ?_
    refine x_alen C q0 0 hw rfl dX5_at_6 ?_
    refine x_icmp_ge C (t := 16) dX5_at_7 (by decide) (fun c7 => ?_) (fun c7 => ?_)
    · replace h := (if_pos c7).symm.trans h
      refine x_locals (lv' := []) [] rfl ?_
      exact X_X5_at_b16 C hw h
    · replace h := (if_neg c7).symm.trans h
      refine x_aload_n C 0 dX5_at_10 rfl ?_
      refine x_iload_n C 1 dX5_at_11 rfl ?_
      obtain ⟨g12, h⟩ := gdB h
      refine x_iald C q0 hw g12 dX5_at_12 ?_
      refine x_goto C (t := 17) dX5_at_13 (by decide) ?_
      refine x_locals (lv' := []) [] rfl ?_
      exact X_X5_at_b17 C hw h
set_option maxRecDepth 100000 in
theorem c_X5_at {l : Launch} {D : va_G} {cI cZ cJ : ClassId} {w : va_W} {a N : Nat} {f : Nat → Int32} {x1 : Int32} {r : Int32} (q0 : Nat) (hw : w[q0]? = some (a, .inl (cI, N, .inl f))) (h : X5_at N f x1 = some r) : ∀ sz, Met l yX5_at wsX5_at rm_X5_at (PC D (t3 cI cZ cJ) [.ref a, .int x1] w sz) (QI D (t3 cI cZ cJ) w w sz r) 0 0 (va_A w sz) := by
  refine x_met (Qc := fun sz => QI D (t3 cI cZ cJ) w w sz r) RX5 rfl (by decide) rfl (Nat.le_of_ble_eq_true rfl) (fun p e s m args below meth c C => ?_)
  exact X_X5_at C hw h
/-! EntryMasters$Tree.mayHold(II)Z -/
abbrev rm_X4_mayHold : Room := { frames := 2, cells := 0, slots := 0, locals := 43 }
theorem hi_X4_mayHold_4 : ∀ z ∈ u_ws RX4 TX4 11, z ∈ wsX4_mayHold := by decide +kernel
theorem lk_X4_mayHold_25 : Cond.fieldLink RX4 25 RX4 "classesOfEntries" "[I" ∈ wsX4_mayHold := by decide +kernel
theorem lk_X4_mayHold_39 : Cond.fieldLink RX4 39 RX4 "classes" "LEntryMasters$Classes;" ∈ wsX4_mayHold := by decide +kernel
theorem cw_X4_mayHold_X0_allows_134 {p : Program} {s : State} {m : MethodId} {args : Array Value} {meth : Method} {c : Code} {D : va_G} {tys : List (ClassId × FieldType)} {R : Room} (C : XC p R s m args meth c cX4_mayHold 3 (some .boolean) RX4 wsX4_mayHold D tys) : CallW rm_X4_mayHold s args RX4 RX0 134 yX0_allows cX0_allows 3 (some .boolean) wsX0_allows rm_X0_allows 0 0 2 := cwV 2 C.2.2.2.2.1 gX4_mayHold_X0_allows rfl rfl rfl (by decide +kernel) ⟨Nat.le_of_ble_eq_true rfl, Nat.le_of_ble_eq_true rfl⟩
theorem cw_X4_mayHold_X5_at_58 {p : Program} {s : State} {m : MethodId} {args : Array Value} {meth : Method} {c : Code} {D : va_G} {tys : List (ClassId × FieldType)} {R : Room} (C : XC p R s m args meth c cX4_mayHold 3 (some .boolean) RX4 wsX4_mayHold D tys) : va_CN rm_X4_mayHold s args RX4 58 yX5_at RX5 cX5_at 2 (some .int) wsX5_at rm_X5_at 0 0 2 ∧ (Cond.static yX5_at).before args s = true ∧ True := ⟨va_cnB 2 C.2.2.2.2.1 gX4_mayHold_X5_at_n58 rfl rfl rfl (C.2.2.2.2.2.2.1.1 _ (nm_mem 9 rfl)) (C.2.2.2.2.1 (.initialized RX5) (by decide +kernel)) (by decide +kernel) ⟨Nat.le_of_ble_eq_true rfl, Nat.le_of_ble_eq_true rfl⟩, C.2.2.2.2.1 (.static yX5_at) (by decide +kernel), trivial⟩
def X4_mayHold (S : St) (x1 x2 : Int32) : Option (Int32) :=
  (X5_at 42 (S 5) x1).bind fun v9 => (X0_allows S v9 x2).bind fun v13 => if v13 &&& 1 = v13 then (some v13) else none
set_option maxHeartbeats 4000000 in
set_option maxRecDepth 100000 in
theorem X_X4_mayHold {p : Program} {l : Launch} {e : Env} {s : State} {m : MethodId} {args : Array Value} {below : List Frame} {meth : Method} {c : Code} {D : va_G} {cI cZ cJ : ClassId} {ad : Nat → Nat} {rest w0 : va_W} (C : XC p rm_X4_mayHold s m args meth c cX4_mayHold 3 (some .boolean) RX4 wsX4_mayHold D (t3 cI cZ cJ)) {S : St} {x1 x2 : Int32} {r : Int32} (h : X4_mayHold S x1 x2 = some r) : XW p l e rm_X4_mayHold s m args below meth c D w0 3 (MQ below (QI D (t3 cI cZ cJ) w0 (wE cI cZ ad S rest) s.heap.size r) args s 0 0 (va_A w0 s.heap.size)) (wE cI cZ ad S rest) 0 0 0 [(0, .ref (ad 0)), (1, .int x1), (2, .int x2)] [] := by
  unfold X4_mayHold at h
  refine x_aload_n C 0 dX4_mayHold_0 rfl ?_
  refine x_get C (R' := RX4) (T := TX4) (N := 11) (ci := 4) 0 2 rfl rfl (by decide) rfl rfl hi_X4_mayHold_4 lk_X4_mayHold_39 dX4_mayHold_1 ?_
  refine x_aload_n C 0 dX4_mayHold_4 rfl ?_
  refine x_get C (R' := RX4) (T := TX4) (N := 11) (ci := 4) 0 8 rfl rfl (by decide) rfl rfl hi_X4_mayHold_4 lk_X4_mayHold_25 dX4_mayHold_5 ?_
  refine x_iload_n C 1 dX4_mayHold_8 rfl ?_
  obtain ⟨v9, hg9, h⟩ := ob h
  refine x_ci0 (x_runSN C (As := [.ref (ad 5), .int x1]) (rest := [.ref (ad 21)]) (c_X5_at 5 rfl hg9) (cw_X4_mayHold_X5_at_58 C) rfl (Nat.le_of_ble_eq_true rfl) dX4_mayHold_9 ⟨Nat.zero_le _, Nat.zero_le _⟩) ?_
  refine x_iload_n C 2 dX4_mayHold_12 rfl ?_
  obtain ⟨v13, hg13, h⟩ := ob h
  refine x_ci0 (x_runV C (As := [.int v9, .int x2]) (rest := []) (c_X0_allows hg13) (cw_X4_mayHold_X0_allows_134 C) 21 rfl rfl rfl (Nat.le_of_ble_eq_true rfl) dX4_mayHold_13 ⟨Nat.zero_le _, Nat.zero_le _⟩) ?_
  obtain ⟨g16, h⟩ := gd h
  obtain rfl := Option.some.inj h
  exact x_zret C g16 dX4_mayHold_16
set_option maxRecDepth 100000 in
theorem c_X4_mayHold {l : Launch} {D : va_G} {cI cZ cJ : ClassId} {ad : Nat → Nat} {S : St} {rest : va_W} {x1 x2 : Int32} {r : Int32} (h : X4_mayHold S x1 x2 = some r) : ∀ sz, Met l yX4_mayHold wsX4_mayHold rm_X4_mayHold (PC D (t3 cI cZ cJ) [.ref (ad 0), .int x1, .int x2] (wE cI cZ ad S rest) sz) (QI D (t3 cI cZ cJ) (wE cI cZ ad S rest) (wE cI cZ ad S rest) sz r) 0 0 (va_A (wE cI cZ ad S rest) sz) := by
  refine x_met (Qc := fun sz => QI D (t3 cI cZ cJ) (wE cI cZ ad S rest) (wE cI cZ ad S rest) sz r) RX4 rfl (by decide) rfl (Nat.le_of_ble_eq_true rfl) (fun p e s m args below meth c C => ?_)
  exact X_X4_mayHold C h
/-! EntryMasters$Tree.valueAt(II)I -/
abbrev rm_X4_valueAt : Room := { frames := 1, cells := 0, slots := 0, locals := 21 }
theorem hi_X4_valueAt_4 : ∀ z ∈ u_ws RX4 TX4 11, z ∈ wsX4_valueAt := by decide +kernel
theorem lk_X4_valueAt_28 : Cond.fieldLink RX4 28 RX4 "values" "[I" ∈ wsX4_valueAt := by decide +kernel
theorem cw_X4_valueAt_X5_at_58 {p : Program} {s : State} {m : MethodId} {args : Array Value} {meth : Method} {c : Code} {D : va_G} {tys : List (ClassId × FieldType)} {R : Room} (C : XC p R s m args meth c cX4_valueAt 3 (some .int) RX4 wsX4_valueAt D tys) : va_CN rm_X4_valueAt s args RX4 58 yX5_at RX5 cX5_at 2 (some .int) wsX5_at rm_X5_at 0 0 2 ∧ (Cond.static yX5_at).before args s = true ∧ True := ⟨va_cnB 2 C.2.2.2.2.1 gX4_valueAt_X5_at_n58 rfl rfl rfl (C.2.2.2.2.2.2.1.1 _ (nm_mem 9 rfl)) (C.2.2.2.2.1 (.initialized RX5) (by decide +kernel)) (by decide +kernel) ⟨Nat.le_of_ble_eq_true rfl, Nat.le_of_ble_eq_true rfl⟩, C.2.2.2.2.1 (.static yX5_at) (by decide +kernel), trivial⟩
def X4_valueAt (S : St) (x1 x2 : Int32) : Option (Int32) :=
  (X5_at 168 (S 6) ((x1 * 4) + x2)).bind fun v9 => some v9
set_option maxHeartbeats 4000000 in
set_option maxRecDepth 100000 in
theorem X_X4_valueAt {p : Program} {l : Launch} {e : Env} {s : State} {m : MethodId} {args : Array Value} {below : List Frame} {meth : Method} {c : Code} {D : va_G} {cI cZ cJ : ClassId} {ad : Nat → Nat} {rest w0 : va_W} (C : XC p rm_X4_valueAt s m args meth c cX4_valueAt 3 (some .int) RX4 wsX4_valueAt D (t3 cI cZ cJ)) {S : St} {x1 x2 : Int32} {r : Int32} (h : X4_valueAt S x1 x2 = some r) : XW p l e rm_X4_valueAt s m args below meth c D w0 3 (MQ below (QI D (t3 cI cZ cJ) w0 (wE cI cZ ad S rest) s.heap.size r) args s 0 0 (va_A w0 s.heap.size)) (wE cI cZ ad S rest) 0 0 0 [(0, .ref (ad 0)), (1, .int x1), (2, .int x2)] [] := by
  unfold X4_valueAt at h
  refine x_aload_n C 0 dX4_valueAt_0 rfl ?_
  refine x_get C (R' := RX4) (T := TX4) (N := 11) (ci := 4) 0 9 rfl rfl (by decide) rfl rfl hi_X4_valueAt_4 lk_X4_valueAt_28 dX4_valueAt_1 ?_
  refine x_iload_n C 1 dX4_valueAt_4 rfl ?_
  refine x_iconst C (v := 4) dX4_valueAt_5 (by decide) ?_
  refine x_imul C dX4_valueAt_6 ?_
  refine x_iload_n C 2 dX4_valueAt_7 rfl ?_
  refine x_iadd C dX4_valueAt_8 ?_
  obtain ⟨v9, hg9, h⟩ := ob h
  refine x_ci0 (x_runSN C (As := [.ref (ad 6), .int ((x1 * 4) + x2)]) (rest := []) (c_X5_at 6 rfl hg9) (cw_X4_valueAt_X5_at_58 C) rfl (Nat.le_of_ble_eq_true rfl) dX4_valueAt_9 ⟨Nat.zero_le _, Nat.zero_le _⟩) ?_
  obtain rfl := Option.some.inj h
  exact x_iret C dX4_valueAt_12
set_option maxRecDepth 100000 in
theorem c_X4_valueAt {l : Launch} {D : va_G} {cI cZ cJ : ClassId} {ad : Nat → Nat} {S : St} {rest : va_W} {x1 x2 : Int32} {r : Int32} (h : X4_valueAt S x1 x2 = some r) : ∀ sz, Met l yX4_valueAt wsX4_valueAt rm_X4_valueAt (PC D (t3 cI cZ cJ) [.ref (ad 0), .int x1, .int x2] (wE cI cZ ad S rest) sz) (QI D (t3 cI cZ cJ) (wE cI cZ ad S rest) (wE cI cZ ad S rest) sz r) 0 0 (va_A (wE cI cZ ad S rest) sz) := by
  refine x_met (Qc := fun sz => QI D (t3 cI cZ cJ) (wE cI cZ ad S rest) (wE cI cZ ad S rest) sz r) RX4 rfl (by decide) rfl (Nat.le_of_ble_eq_true rfl) (fun p e s m args below meth c C => ?_)
  exact X_X4_valueAt C h
/-! EntryMasters$Filters.truthOfTest(IIILEntryMasters$Tree;I)I -/
abbrev rm_X1_truthOfTest : Room := { frames := 3, cells := 0, slots := 0, locals := 65 }
theorem cw_X1_truthOfTest_X4_mayHold_44 {p : Program} {s : State} {m : MethodId} {args : Array Value} {meth : Method} {c : Code} {D : va_G} {tys : List (ClassId × FieldType)} {R : Room} (C : XC p R s m args meth c cX1_truthOfTest 6 (some .int) RX1 wsX1_truthOfTest D tys) : CallW rm_X1_truthOfTest s args RX1 RX4 44 yX4_mayHold cX4_mayHold 3 (some .boolean) wsX4_mayHold rm_X4_mayHold 0 0 2 := cwV 2 C.2.2.2.2.1 gX1_truthOfTest_X4_mayHold rfl rfl rfl (by decide +kernel) ⟨Nat.le_of_ble_eq_true rfl, Nat.le_of_ble_eq_true rfl⟩
theorem cw_X1_truthOfTest_X4_valueAt_50 {p : Program} {s : State} {m : MethodId} {args : Array Value} {meth : Method} {c : Code} {D : va_G} {tys : List (ClassId × FieldType)} {R : Room} (C : XC p R s m args meth c cX1_truthOfTest 6 (some .int) RX1 wsX1_truthOfTest D tys) : CallW rm_X1_truthOfTest s args RX1 RX4 50 yX4_valueAt cX4_valueAt 3 (some .int) wsX4_valueAt rm_X4_valueAt 0 0 2 := cwV 2 C.2.2.2.2.1 gX1_truthOfTest_X4_valueAt rfl rfl rfl (by decide +kernel) ⟨Nat.le_of_ble_eq_true rfl, Nat.le_of_ble_eq_true rfl⟩
def X1_truthOfTest_b69 (S : St) (s0 : Int32) : Option (Int32) :=
  some s0
set_option maxHeartbeats 4000000 in
set_option maxRecDepth 100000 in
theorem X_X1_truthOfTest_b69 {p : Program} {l : Launch} {e : Env} {s : State} {m : MethodId} {args : Array Value} {below : List Frame} {meth : Method} {c : Code} {D : va_G} {cI cZ cJ : ClassId} {ad : Nat → Nat} {rest w0 : va_W} (C : XC p rm_X1_truthOfTest s m args meth c cX1_truthOfTest 6 (some .int) RX1 wsX1_truthOfTest D (t3 cI cZ cJ)) {S : St} {s0 : Int32} {r : Int32} (h : X1_truthOfTest_b69 S s0 = some r) : XW p l e rm_X1_truthOfTest s m args below meth c D w0 6 (MQ below (QI D (t3 cI cZ cJ) w0 (wE cI cZ ad S rest) s.heap.size r) args s 0 0 (va_A w0 s.heap.size)) (wE cI cZ ad S rest) 0 0 69 [] [.int s0] := by
  unfold X1_truthOfTest_b69 at h
  obtain rfl := Option.some.inj h
  exact x_iret C dX1_truthOfTest_69
def X1_truthOfTest_b81 (S : St) (s0 : Int32) : Option (Int32) :=
  some s0
set_option maxHeartbeats 4000000 in
set_option maxRecDepth 100000 in
theorem X_X1_truthOfTest_b81 {p : Program} {l : Launch} {e : Env} {s : State} {m : MethodId} {args : Array Value} {below : List Frame} {meth : Method} {c : Code} {D : va_G} {cI cZ cJ : ClassId} {ad : Nat → Nat} {rest w0 : va_W} (C : XC p rm_X1_truthOfTest s m args meth c cX1_truthOfTest 6 (some .int) RX1 wsX1_truthOfTest D (t3 cI cZ cJ)) {S : St} {s0 : Int32} {r : Int32} (h : X1_truthOfTest_b81 S s0 = some r) : XW p l e rm_X1_truthOfTest s m args below meth c D w0 6 (MQ below (QI D (t3 cI cZ cJ) w0 (wE cI cZ ad S rest) s.heap.size r) args s 0 0 (va_A w0 s.heap.size)) (wE cI cZ ad S rest) 0 0 81 [] [.int s0] := by
  unfold X1_truthOfTest_b81 at h
  obtain rfl := Option.some.inj h
  exact x_iret C dX1_truthOfTest_81
def X1_truthOfTest (S : St) (x0 x1 x2 x4 : Int32) : Option (Int32) :=
  (X4_mayHold S x4 x1).bind fun v4 => if v4 = 0 then (some (-1)) else ((X4_valueAt S x4 x1).bind fun v16 => if v16 = (-1) then (some 0) else (if x0 = 0 then (some 1) else (if x0 = 1 then (if v16 = x2 then (X1_truthOfTest_b69 S 1) else (X1_truthOfTest_b69 S 0)) else (if x0 = 2 then (if v16 < x2 then (X1_truthOfTest_b81 S 0) else (X1_truthOfTest_b81 S 1)) else (some (-1))))))
set_option maxHeartbeats 4000000 in
set_option maxRecDepth 100000 in
theorem X_X1_truthOfTest {p : Program} {l : Launch} {e : Env} {s : State} {m : MethodId} {args : Array Value} {below : List Frame} {meth : Method} {c : Code} {D : va_G} {cI cZ cJ : ClassId} {ad : Nat → Nat} {rest w0 : va_W} (C : XC p rm_X1_truthOfTest s m args meth c cX1_truthOfTest 6 (some .int) RX1 wsX1_truthOfTest D (t3 cI cZ cJ)) {S : St} {x0 x1 x2 x4 : Int32} {r : Int32} (h : X1_truthOfTest S x0 x1 x2 x4 = some r) : XW p l e rm_X1_truthOfTest s m args below meth c D w0 6 (MQ below (QI D (t3 cI cZ cJ) w0 (wE cI cZ ad S rest) s.heap.size r) args s 0 0 (va_A w0 s.heap.size)) (wE cI cZ ad S rest) 0 0 0 [(0, .int x0), (1, .int x1), (2, .int x2), (3, .ref (ad 0)), (4, .int x4)] [] := by
  unfold X1_truthOfTest at h
  refine x_aload_n C 3 dX1_truthOfTest_0 rfl ?_
  refine x_iload C 4 dX1_truthOfTest_1 rfl ?_
  refine x_iload_n C 1 dX1_truthOfTest_3 rfl ?_
  obtain ⟨v4, hg4, h⟩ := ob h
  refine x_ci0 (x_runV C (As := [.int x4, .int x1]) (rest := []) (c_X4_mayHold hg4) (cw_X1_truthOfTest_X4_mayHold_44 C) 0 rfl rfl rfl (Nat.le_of_ble_eq_true rfl) dX1_truthOfTest_4 ⟨Nat.zero_le _, Nat.zero_le _⟩) ?_
  refine x_if_ne C (t := 12) dX1_truthOfTest_7 (by decide) (fun c7 => ?_) (fun c7 => ?_)
  · replace h := (if_neg c7).symm.trans h
    refine x_aload_n C 3 dX1_truthOfTest_12 rfl ?_
    refine x_iload C 4 dX1_truthOfTest_13 rfl ?_
    refine x_iload_n C 1 dX1_truthOfTest_15 rfl ?_
    obtain ⟨v16, hg16, h⟩ := ob h
    refine x_ci0 (x_runV C (As := [.int x4, .int x1]) (rest := []) (c_X4_valueAt hg16) (cw_X1_truthOfTest_X4_valueAt_50 C) 0 rfl rfl rfl (Nat.le_of_ble_eq_true rfl) dX1_truthOfTest_16 ⟨Nat.zero_le _, Nat.zero_le _⟩) ?_
    refine x_istore C (lv' := [(0, .int x0), (1, .int x1), (2, .int x2), (3, .ref (ad 0)), (4, .int x4), (5, .int v16)]) dX1_truthOfTest_19 (by decide) rfl ?_
    refine x_iload C 5 dX1_truthOfTest_21 rfl ?_
    refine x_iconst C (v := (-1)) dX1_truthOfTest_23 (by decide) ?_
    refine x_icmp_ne C (t := 29) dX1_truthOfTest_24 (by decide) (fun c24 => ?_) (fun c24 => ?_)
    · replace h := (if_neg c24).symm.trans h
      refine x_iload_n C 0 dX1_truthOfTest_29 rfl ?_
      by_cases c30_0 : x0 = 0
      · replace h := (if_pos c30_0).symm.trans h
        refine x_tableIn C (t := 56) dX1_truthOfTest_30 (v := 0) (by rw [c30_0]; decide) (by decide) (by decide) rfl (by decide) ?_
        refine x_iconst C (v := 1) dX1_truthOfTest_56 (by decide) ?_
        obtain rfl := Option.some.inj h
        exact x_iret C dX1_truthOfTest_57
      · replace h := (if_neg c30_0).symm.trans h
        by_cases c30_1 : x0 = 1
        · replace h := (if_pos c30_1).symm.trans h
          refine x_tableIn C (t := 58) dX1_truthOfTest_30 (v := 1) (by rw [c30_1]; decide) (by decide) (by decide) rfl (by decide) ?_
          refine x_iload C 5 dX1_truthOfTest_58 rfl ?_
          refine x_iload_n C 2 dX1_truthOfTest_60 rfl ?_
          refine x_icmp_ne C (t := 68) dX1_truthOfTest_61 (by decide) (fun c61 => ?_) (fun c61 => ?_)
          · replace h := (if_neg c61).symm.trans h
            refine x_iconst C (v := 0) dX1_truthOfTest_68 (by decide) ?_
            refine x_locals (lv' := []) [] rfl ?_
            exact X_X1_truthOfTest_b69 C h
          · replace h := (if_pos c61).symm.trans h
            refine x_iconst C (v := 1) dX1_truthOfTest_64 (by decide) ?_
            refine x_goto C (t := 69) dX1_truthOfTest_65 (by decide) ?_
            refine x_locals (lv' := []) [] rfl ?_
            exact X_X1_truthOfTest_b69 C h
        · replace h := (if_neg c30_1).symm.trans h
          by_cases c30_2 : x0 = 2
          · replace h := (if_pos c30_2).symm.trans h
            refine x_tableIn C (t := 70) dX1_truthOfTest_30 (v := 2) (by rw [c30_2]; decide) (by decide) (by decide) rfl (by decide) ?_
            refine x_iload C 5 dX1_truthOfTest_70 rfl ?_
            refine x_iload_n C 2 dX1_truthOfTest_72 rfl ?_
            refine x_icmp_lt C (t := 80) dX1_truthOfTest_73 (by decide) (fun c73 => ?_) (fun c73 => ?_)
            · replace h := (if_pos c73).symm.trans h
              refine x_iconst C (v := 0) dX1_truthOfTest_80 (by decide) ?_
              refine x_locals (lv' := []) [] rfl ?_
              exact X_X1_truthOfTest_b81 C h
            · replace h := (if_neg c73).symm.trans h
              refine x_iconst C (v := 1) dX1_truthOfTest_76 (by decide) ?_
              refine x_goto C (t := 81) dX1_truthOfTest_77 (by decide) ?_
              refine x_locals (lv' := []) [] rfl ?_
              exact X_X1_truthOfTest_b81 C h
          · replace h := (if_neg c30_2).symm.trans h
            refine x_tableOut C (t := 82) dX1_truthOfTest_30 (sw_out3_0 c30_0 c30_1 c30_2) (by decide) ?_
            refine x_iconst C (v := (-1)) dX1_truthOfTest_82 (by decide) ?_
            obtain rfl := Option.some.inj h
            exact x_iret C dX1_truthOfTest_83
    · replace h := (if_pos c24).symm.trans h
      refine x_iconst C (v := 0) dX1_truthOfTest_27 (by decide) ?_
      obtain rfl := Option.some.inj h
      exact x_iret C dX1_truthOfTest_28
  · replace h := (if_pos c7).symm.trans h
    refine x_iconst C (v := (-1)) dX1_truthOfTest_10 (by decide) ?_
    obtain rfl := Option.some.inj h
    exact x_iret C dX1_truthOfTest_11
set_option maxRecDepth 100000 in
theorem c_X1_truthOfTest {l : Launch} {D : va_G} {cI cZ cJ : ClassId} {ad : Nat → Nat} {S : St} {rest : va_W} {x0 x1 x2 x4 : Int32} {r : Int32} (h : X1_truthOfTest S x0 x1 x2 x4 = some r) : ∀ sz, Met l yX1_truthOfTest wsX1_truthOfTest rm_X1_truthOfTest (PC D (t3 cI cZ cJ) [.int x0, .int x1, .int x2, .ref (ad 0), .int x4] (wE cI cZ ad S rest) sz) (QI D (t3 cI cZ cJ) (wE cI cZ ad S rest) (wE cI cZ ad S rest) sz r) 0 0 (va_A (wE cI cZ ad S rest) sz) := by
  refine x_met (Qc := fun sz => QI D (t3 cI cZ cJ) (wE cI cZ ad S rest) (wE cI cZ ad S rest) sz r) RX1 rfl (by decide) rfl (Nat.le_of_ble_eq_true rfl) (fun p e s m args below meth c C => ?_)
  exact X_X1_truthOfTest C h
/-! EntryMasters$Filters.both(II)I -/
abbrev rm_X1_both : Room := { frames := 0, cells := 0, slots := 0, locals := 0 }
def X1_both_b8  : Option (Int32) :=
  some 0
set_option maxHeartbeats 4000000 in
set_option maxRecDepth 100000 in
theorem X_X1_both_b8 {p : Program} {l : Launch} {e : Env} {s : State} {m : MethodId} {args : Array Value} {below : List Frame} {meth : Method} {c : Code} {D : va_G} {cI cZ cJ : ClassId} {w w0 : va_W} (C : XC p rm_X1_both s m args meth c cX1_both 2 (some .int) RX1 wsX1_both D (t3 cI cZ cJ)) {r : Int32} (h : X1_both_b8  = some r) : XW p l e rm_X1_both s m args below meth c D w0 2 (MQ below (QI D (t3 cI cZ cJ) w0 w s.heap.size r) args s 0 0 (va_A w0 s.heap.size)) w 0 0 8 [] [] := by
  unfold X1_both_b8 at h
  refine x_iconst C (v := 0) dX1_both_8 (by decide) ?_
  obtain rfl := Option.some.inj h
  exact x_iret C dX1_both_9
def X1_both_b25  (s0 : Int32) : Option (Int32) :=
  some s0
set_option maxHeartbeats 4000000 in
set_option maxRecDepth 100000 in
theorem X_X1_both_b25 {p : Program} {l : Launch} {e : Env} {s : State} {m : MethodId} {args : Array Value} {below : List Frame} {meth : Method} {c : Code} {D : va_G} {cI cZ cJ : ClassId} {w w0 : va_W} (C : XC p rm_X1_both s m args meth c cX1_both 2 (some .int) RX1 wsX1_both D (t3 cI cZ cJ)) {s0 : Int32} {r : Int32} (h : X1_both_b25 s0 = some r) : XW p l e rm_X1_both s m args below meth c D w0 2 (MQ below (QI D (t3 cI cZ cJ) w0 w s.heap.size r) args s 0 0 (va_A w0 s.heap.size)) w 0 0 25 [] [.int s0] := by
  unfold X1_both_b25 at h
  obtain rfl := Option.some.inj h
  exact x_iret C dX1_both_25
def X1_both_b20  : Option (Int32) :=
  X1_both_b25 (-1)
set_option maxHeartbeats 4000000 in
set_option maxRecDepth 100000 in
theorem X_X1_both_b20 {p : Program} {l : Launch} {e : Env} {s : State} {m : MethodId} {args : Array Value} {below : List Frame} {meth : Method} {c : Code} {D : va_G} {cI cZ cJ : ClassId} {w w0 : va_W} (C : XC p rm_X1_both s m args meth c cX1_both 2 (some .int) RX1 wsX1_both D (t3 cI cZ cJ)) {r : Int32} (h : X1_both_b20  = some r) : XW p l e rm_X1_both s m args below meth c D w0 2 (MQ below (QI D (t3 cI cZ cJ) w0 w s.heap.size r) args s 0 0 (va_A w0 s.heap.size)) w 0 0 20 [] [] := by
  unfold X1_both_b20 at h
  refine x_iconst C (v := (-1)) dX1_both_20 (by decide) ?_
  refine x_goto C (t := 25) dX1_both_21 (by decide) ?_
  exact X_X1_both_b25 C h
def X1_both  (x0 x1 : Int32) : Option (Int32) :=
  if x0 = 0 then (X1_both_b8) else (if x1 = 0 then (X1_both_b8) else (if x0 = (-1) then (X1_both_b20) else (if x1 = (-1) then (X1_both_b20) else (X1_both_b25 1))))
set_option maxHeartbeats 4000000 in
set_option maxRecDepth 100000 in
theorem X_X1_both {p : Program} {l : Launch} {e : Env} {s : State} {m : MethodId} {args : Array Value} {below : List Frame} {meth : Method} {c : Code} {D : va_G} {cI cZ cJ : ClassId} {w w0 : va_W} (C : XC p rm_X1_both s m args meth c cX1_both 2 (some .int) RX1 wsX1_both D (t3 cI cZ cJ)) {x0 x1 : Int32} {r : Int32} (h : X1_both x0 x1 = some r) : XW p l e rm_X1_both s m args below meth c D w0 2 (MQ below (QI D (t3 cI cZ cJ) w0 w s.heap.size r) args s 0 0 (va_A w0 s.heap.size)) w 0 0 0 [(0, .int x0), (1, .int x1)] [] := by
  unfold X1_both at h
  refine x_iload_n C 0 dX1_both_0 rfl ?_
  refine x_if_eq C (t := 8) dX1_both_1 (by decide) (fun c1 => ?_) (fun c1 => ?_)
  · replace h := (if_pos c1).symm.trans h
    refine x_locals (lv' := []) [] rfl ?_
    exact X_X1_both_b8 C h
  · replace h := (if_neg c1).symm.trans h
    refine x_iload_n C 1 dX1_both_4 rfl ?_
    refine x_if_ne C (t := 10) dX1_both_5 (by decide) (fun c5 => ?_) (fun c5 => ?_)
    · replace h := (if_neg c5).symm.trans h
      refine x_iload_n C 0 dX1_both_10 rfl ?_
      refine x_iconst C (v := (-1)) dX1_both_11 (by decide) ?_
      refine x_icmp_eq C (t := 20) dX1_both_12 (by decide) (fun c12 => ?_) (fun c12 => ?_)
      · replace h := (if_pos c12).symm.trans h
        refine x_locals (lv' := []) [] rfl ?_
        exact X_X1_both_b20 C h
      · replace h := (if_neg c12).symm.trans h
        refine x_iload_n C 1 dX1_both_15 rfl ?_
        refine x_iconst C (v := (-1)) dX1_both_16 (by decide) ?_
        refine x_icmp_ne C (t := 24) dX1_both_17 (by decide) (fun c17 => ?_) (fun c17 => ?_)
        · replace h := (if_neg c17).symm.trans h
          refine x_iconst C (v := 1) dX1_both_24 (by decide) ?_
          refine x_locals (lv' := []) [] rfl ?_
          exact X_X1_both_b25 C h
        · replace h := (if_pos c17).symm.trans h
          refine x_locals (lv' := []) [] rfl ?_
          exact X_X1_both_b20 C h
    · replace h := (if_pos c5).symm.trans h
      refine x_locals (lv' := []) [] rfl ?_
      exact X_X1_both_b8 C h
set_option maxRecDepth 100000 in
theorem c_X1_both {l : Launch} {D : va_G} {cI cZ cJ : ClassId} {w : va_W} {x0 x1 : Int32} {r : Int32} (h : X1_both x0 x1 = some r) : ∀ sz, Met l yX1_both wsX1_both rm_X1_both (PC D (t3 cI cZ cJ) [.int x0, .int x1] w sz) (QI D (t3 cI cZ cJ) w w sz r) 0 0 (va_A w sz) := by
  refine x_met (Qc := fun sz => QI D (t3 cI cZ cJ) w w sz r) RX1 rfl (by decide) rfl (Nat.le_of_ble_eq_true rfl) (fun p e s m args below meth c C => ?_)
  exact X_X1_both C h
/-! EntryMasters$Filters.opposite(I)I -/
abbrev rm_X1_opposite : Room := { frames := 0, cells := 0, slots := 0, locals := 0 }
def X1_opposite_b12  (s0 : Int32) : Option (Int32) :=
  some s0
set_option maxHeartbeats 4000000 in
set_option maxRecDepth 100000 in
theorem X_X1_opposite_b12 {p : Program} {l : Launch} {e : Env} {s : State} {m : MethodId} {args : Array Value} {below : List Frame} {meth : Method} {c : Code} {D : va_G} {cI cZ cJ : ClassId} {w w0 : va_W} (C : XC p rm_X1_opposite s m args meth c cX1_opposite 1 (some .int) RX1 wsX1_opposite D (t3 cI cZ cJ)) {s0 : Int32} {r : Int32} (h : X1_opposite_b12 s0 = some r) : XW p l e rm_X1_opposite s m args below meth c D w0 1 (MQ below (QI D (t3 cI cZ cJ) w0 w s.heap.size r) args s 0 0 (va_A w0 s.heap.size)) w 0 0 12 [] [.int s0] := by
  unfold X1_opposite_b12 at h
  obtain rfl := Option.some.inj h
  exact x_iret C dX1_opposite_12
def X1_opposite  (x0 : Int32) : Option (Int32) :=
  if x0 = (-1) then (X1_opposite_b12 (-1)) else (X1_opposite_b12 (1 - x0))
set_option maxHeartbeats 4000000 in
set_option maxRecDepth 100000 in
theorem X_X1_opposite {p : Program} {l : Launch} {e : Env} {s : State} {m : MethodId} {args : Array Value} {below : List Frame} {meth : Method} {c : Code} {D : va_G} {cI cZ cJ : ClassId} {w w0 : va_W} (C : XC p rm_X1_opposite s m args meth c cX1_opposite 1 (some .int) RX1 wsX1_opposite D (t3 cI cZ cJ)) {x0 : Int32} {r : Int32} (h : X1_opposite x0 = some r) : XW p l e rm_X1_opposite s m args below meth c D w0 1 (MQ below (QI D (t3 cI cZ cJ) w0 w s.heap.size r) args s 0 0 (va_A w0 s.heap.size)) w 0 0 0 [(0, .int x0)] [] := by
  unfold X1_opposite at h
  refine x_iload_n C 0 dX1_opposite_0 rfl ?_
  refine x_iconst C (v := (-1)) dX1_opposite_1 (by decide) ?_
  refine x_icmp_ne C (t := 9) dX1_opposite_2 (by decide) (fun c2 => ?_) (fun c2 => ?_)
  · replace h := (if_neg c2).symm.trans h
    refine x_iconst C (v := 1) dX1_opposite_9 (by decide) ?_
    refine x_iload_n C 0 dX1_opposite_10 rfl ?_
    refine x_isub C dX1_opposite_11 ?_
    refine x_locals (lv' := []) [] rfl ?_
    exact X_X1_opposite_b12 C h
  · replace h := (if_pos c2).symm.trans h
    refine x_iconst C (v := (-1)) dX1_opposite_5 (by decide) ?_
    refine x_goto C (t := 12) dX1_opposite_6 (by decide) ?_
    refine x_locals (lv' := []) [] rfl ?_
    exact X_X1_opposite_b12 C h
set_option maxRecDepth 100000 in
theorem c_X1_opposite {l : Launch} {D : va_G} {cI cZ cJ : ClassId} {w : va_W} {x0 : Int32} {r : Int32} (h : X1_opposite x0 = some r) : ∀ sz, Met l yX1_opposite wsX1_opposite rm_X1_opposite (PC D (t3 cI cZ cJ) [.int x0] w sz) (QI D (t3 cI cZ cJ) w w sz r) 0 0 (va_A w sz) := by
  refine x_met (Qc := fun sz => QI D (t3 cI cZ cJ) w w sz r) RX1 rfl (by decide) rfl (Nat.le_of_ble_eq_true rfl) (fun p e s m args below meth c C => ?_)
  exact X_X1_opposite C h
/-! EntryMasters$Filters.truthOfJoin(III)I -/
abbrev rm_X1_truthOfJoin : Room := { frames := 1, cells := 0, slots := 0, locals := 21 }
theorem cw_X1_truthOfJoin_X1_both_54 {p : Program} {s : State} {m : MethodId} {args : Array Value} {meth : Method} {c : Code} {D : va_G} {tys : List (ClassId × FieldType)} {R : Room} (C : XC p R s m args meth c cX1_truthOfJoin 3 (some .int) RX1 wsX1_truthOfJoin D tys) : CallB rm_X1_truthOfJoin s args RX1 54 yX1_both cX1_both 2 (some .int) wsX1_both rm_X1_both 0 0 2 ∧ (Cond.static yX1_both).before args s = true := va_cwS 2 C.2.2.2.2.1 gX1_truthOfJoin_X1_both rfl rfl rfl (by decide +kernel) ⟨Nat.le_of_ble_eq_true rfl, Nat.le_of_ble_eq_true rfl⟩
theorem cw_X1_truthOfJoin_X1_opposite_57 {p : Program} {s : State} {m : MethodId} {args : Array Value} {meth : Method} {c : Code} {D : va_G} {tys : List (ClassId × FieldType)} {R : Room} (C : XC p R s m args meth c cX1_truthOfJoin 3 (some .int) RX1 wsX1_truthOfJoin D tys) : CallB rm_X1_truthOfJoin s args RX1 57 yX1_opposite cX1_opposite 1 (some .int) wsX1_opposite rm_X1_opposite 0 0 1 ∧ (Cond.static yX1_opposite).before args s = true := va_cwS 1 C.2.2.2.2.1 gX1_truthOfJoin_X1_opposite rfl rfl rfl (by decide +kernel) ⟨Nat.le_of_ble_eq_true rfl, Nat.le_of_ble_eq_true rfl⟩
def X1_truthOfJoin  (x0 x1 x2 : Int32) : Option (Int32) :=
  if x0 = 3 then ((X1_both x1 x2).bind fun v30 => some v30) else (if x0 = 4 then ((X1_opposite x1).bind fun v35 => (X1_opposite x2).bind fun v39 => (X1_both v35 v39).bind fun v42 => (X1_opposite v42).bind fun v45 => some v45) else (if x0 = 5 then ((X1_opposite x1).bind fun v50 => some v50) else (some (-1))))
set_option maxHeartbeats 4000000 in
set_option maxRecDepth 100000 in
theorem X_X1_truthOfJoin {p : Program} {l : Launch} {e : Env} {s : State} {m : MethodId} {args : Array Value} {below : List Frame} {meth : Method} {c : Code} {D : va_G} {cI cZ cJ : ClassId} {w w0 : va_W} (C : XC p rm_X1_truthOfJoin s m args meth c cX1_truthOfJoin 3 (some .int) RX1 wsX1_truthOfJoin D (t3 cI cZ cJ)) {x0 x1 x2 : Int32} {r : Int32} (h : X1_truthOfJoin x0 x1 x2 = some r) : XW p l e rm_X1_truthOfJoin s m args below meth c D w0 3 (MQ below (QI D (t3 cI cZ cJ) w0 w s.heap.size r) args s 0 0 (va_A w0 s.heap.size)) w 0 0 0 [(0, .int x0), (1, .int x1), (2, .int x2)] [] := by
  unfold X1_truthOfJoin at h
  refine x_iload_n C 0 dX1_truthOfJoin_0 rfl ?_
  by_cases c1_0 : x0 = 3
  · replace h := (if_pos c1_0).symm.trans h
    refine x_tableIn C (t := 28) dX1_truthOfJoin_1 (v := 3) (by rw [c1_0]; decide) (by decide) (by decide) rfl (by decide) ?_
    refine x_iload_n C 1 dX1_truthOfJoin_28 rfl ?_
    refine x_iload_n C 2 dX1_truthOfJoin_29 rfl ?_
    obtain ⟨v30, hg30, h⟩ := ob h
    refine x_ci0 (x_runS C (As := [.int x1, .int x2]) (rest := []) (c_X1_both hg30) (cw_X1_truthOfJoin_X1_both_54 C) rfl (Nat.le_of_ble_eq_true rfl) dX1_truthOfJoin_30 ⟨Nat.zero_le _, Nat.zero_le _⟩) ?_
    obtain rfl := Option.some.inj h
    exact x_iret C dX1_truthOfJoin_33
  · replace h := (if_neg c1_0).symm.trans h
    by_cases c1_1 : x0 = 4
    · replace h := (if_pos c1_1).symm.trans h
      refine x_tableIn C (t := 34) dX1_truthOfJoin_1 (v := 4) (by rw [c1_1]; decide) (by decide) (by decide) rfl (by decide) ?_
      refine x_iload_n C 1 dX1_truthOfJoin_34 rfl ?_
      obtain ⟨v35, hg35, h⟩ := ob h
      refine x_ci0 (x_runS C (As := [.int x1]) (rest := []) (c_X1_opposite hg35) (cw_X1_truthOfJoin_X1_opposite_57 C) rfl (Nat.le_of_ble_eq_true rfl) dX1_truthOfJoin_35 ⟨Nat.zero_le _, Nat.zero_le _⟩) ?_
      refine x_iload_n C 2 dX1_truthOfJoin_38 rfl ?_
      obtain ⟨v39, hg39, h⟩ := ob h
      refine x_ci0 (x_runS C (As := [.int x2]) (rest := [.int v35]) (c_X1_opposite hg39) (cw_X1_truthOfJoin_X1_opposite_57 C) rfl (Nat.le_of_ble_eq_true rfl) dX1_truthOfJoin_39 ⟨Nat.zero_le _, Nat.zero_le _⟩) ?_
      obtain ⟨v42, hg42, h⟩ := ob h
      refine x_ci0 (x_runS C (As := [.int v35, .int v39]) (rest := []) (c_X1_both hg42) (cw_X1_truthOfJoin_X1_both_54 C) rfl (Nat.le_of_ble_eq_true rfl) dX1_truthOfJoin_42 ⟨Nat.zero_le _, Nat.zero_le _⟩) ?_
      obtain ⟨v45, hg45, h⟩ := ob h
      refine x_ci0 (x_runS C (As := [.int v42]) (rest := []) (c_X1_opposite hg45) (cw_X1_truthOfJoin_X1_opposite_57 C) rfl (Nat.le_of_ble_eq_true rfl) dX1_truthOfJoin_45 ⟨Nat.zero_le _, Nat.zero_le _⟩) ?_
      obtain rfl := Option.some.inj h
      exact x_iret C dX1_truthOfJoin_48
    · replace h := (if_neg c1_1).symm.trans h
      by_cases c1_2 : x0 = 5
      · replace h := (if_pos c1_2).symm.trans h
        refine x_tableIn C (t := 49) dX1_truthOfJoin_1 (v := 5) (by rw [c1_2]; decide) (by decide) (by decide) rfl (by decide) ?_
        refine x_iload_n C 1 dX1_truthOfJoin_49 rfl ?_
        obtain ⟨v50, hg50, h⟩ := ob h
        refine x_ci0 (x_runS C (As := [.int x1]) (rest := []) (c_X1_opposite hg50) (cw_X1_truthOfJoin_X1_opposite_57 C) rfl (Nat.le_of_ble_eq_true rfl) dX1_truthOfJoin_50 ⟨Nat.zero_le _, Nat.zero_le _⟩) ?_
        obtain rfl := Option.some.inj h
        exact x_iret C dX1_truthOfJoin_53
      · replace h := (if_neg c1_2).symm.trans h
        refine x_tableOut C (t := 54) dX1_truthOfJoin_1 (sw_out3_3 c1_0 c1_1 c1_2) (by decide) ?_
        refine x_iconst C (v := (-1)) dX1_truthOfJoin_54 (by decide) ?_
        obtain rfl := Option.some.inj h
        exact x_iret C dX1_truthOfJoin_55
set_option maxRecDepth 100000 in
theorem c_X1_truthOfJoin {l : Launch} {D : va_G} {cI cZ cJ : ClassId} {w : va_W} {x0 x1 x2 : Int32} {r : Int32} (h : X1_truthOfJoin x0 x1 x2 = some r) : ∀ sz, Met l yX1_truthOfJoin wsX1_truthOfJoin rm_X1_truthOfJoin (PC D (t3 cI cZ cJ) [.int x0, .int x1, .int x2] w sz) (QI D (t3 cI cZ cJ) w w sz r) 0 0 (va_A w sz) := by
  refine x_met (Qc := fun sz => QI D (t3 cI cZ cJ) w w sz r) RX1 rfl (by decide) rfl (Nat.le_of_ble_eq_true rfl) (fun p e s m args below meth c C => ?_)
  exact X_X1_truthOfJoin C h
/-! EntryMasters$Filters.truthFor(ILEntryMasters$Tree;I)I -/
abbrev rm_X1_truthFor : Room := { frames := 4, cells := 0, slots := 0, locals := 90 }
theorem hi_X1_truthFor_1 : ∀ z ∈ u_ws RX1 TX1 5, z ∈ wsX1_truthFor := by decide +kernel
theorem lk_X1_truthFor_9 : Cond.fieldLink RX1 9 RX1 "kinds" "[I" ∈ wsX1_truthFor := by decide +kernel
theorem lk_X1_truthFor_15 : Cond.fieldLink RX1 15 RX1 "firsts" "[I" ∈ wsX1_truthFor := by decide +kernel
theorem lk_X1_truthFor_18 : Cond.fieldLink RX1 18 RX1 "seconds" "[I" ∈ wsX1_truthFor := by decide +kernel
theorem lk_X1_truthFor_21 : Cond.fieldLink RX1 21 RX1 "truths" "[I" ∈ wsX1_truthFor := by decide +kernel
theorem cw_X1_truthFor_X1_truthOfJoin_40 {p : Program} {s : State} {m : MethodId} {args : Array Value} {meth : Method} {c : Code} {D : va_G} {tys : List (ClassId × FieldType)} {R : Room} (C : XC p R s m args meth c cX1_truthFor 8 (some .int) RX1 wsX1_truthFor D tys) : CallB rm_X1_truthFor s args RX1 40 yX1_truthOfJoin cX1_truthOfJoin 3 (some .int) wsX1_truthOfJoin rm_X1_truthOfJoin 0 0 3 ∧ (Cond.static yX1_truthOfJoin).before args s = true := va_cwS 3 C.2.2.2.2.1 gX1_truthFor_X1_truthOfJoin rfl rfl rfl (by decide +kernel) ⟨Nat.le_of_ble_eq_true rfl, Nat.le_of_ble_eq_true rfl⟩
theorem cw_X1_truthFor_X1_truthOfTest_32 {p : Program} {s : State} {m : MethodId} {args : Array Value} {meth : Method} {c : Code} {D : va_G} {tys : List (ClassId × FieldType)} {R : Room} (C : XC p R s m args meth c cX1_truthFor 8 (some .int) RX1 wsX1_truthFor D tys) : CallB rm_X1_truthFor s args RX1 32 yX1_truthOfTest cX1_truthOfTest 6 (some .int) wsX1_truthOfTest rm_X1_truthOfTest 0 0 5 ∧ (Cond.static yX1_truthOfTest).before args s = true := va_cwS 5 C.2.2.2.2.1 gX1_truthFor_X1_truthOfTest rfl rfl rfl (by decide +kernel) ⟨Nat.le_of_ble_eq_true rfl, Nat.le_of_ble_eq_true rfl⟩
theorem cw_X1_truthFor_X5_at_36 {p : Program} {s : State} {m : MethodId} {args : Array Value} {meth : Method} {c : Code} {D : va_G} {tys : List (ClassId × FieldType)} {R : Room} (C : XC p R s m args meth c cX1_truthFor 8 (some .int) RX1 wsX1_truthFor D tys) : va_CN rm_X1_truthFor s args RX1 36 yX5_at RX5 cX5_at 2 (some .int) wsX5_at rm_X5_at 0 0 2 ∧ (Cond.static yX5_at).before args s = true ∧ True := ⟨va_cnB 2 C.2.2.2.2.1 gX1_truthFor_X5_at_n36 rfl rfl rfl (C.2.2.2.2.2.2.1.1 _ (nm_mem 4 rfl)) (C.2.2.2.2.1 (.initialized RX5) (by decide +kernel)) (by decide +kernel) ⟨Nat.le_of_ble_eq_true rfl, Nat.le_of_ble_eq_true rfl⟩, C.2.2.2.2.1 (.static yX5_at) (by decide +kernel), trivial⟩
def X1_truthFor_b99 (S : St) (x1 : Int32) : Option (Int32 × St) :=
  (X5_at 20 (S 31) x1).bind fun v104 => some (v104, S)
set_option maxHeartbeats 4000000 in
set_option maxRecDepth 100000 in
theorem X_X1_truthFor_b99 {p : Program} {l : Launch} {e : Env} {s : State} {m : MethodId} {args : Array Value} {below : List Frame} {meth : Method} {c : Code} {D : va_G} {cI cZ cJ : ClassId} {ad : Nat → Nat} {rest w0 : va_W} (C : XC p rm_X1_truthFor s m args meth c cX1_truthFor 8 (some .int) RX1 wsX1_truthFor D (t3 cI cZ cJ)) {S : St} {x1 : Int32} {r : Int32 × St} (h : X1_truthFor_b99 S x1 = some r) : XW p l e rm_X1_truthFor s m args below meth c D w0 8 (MQ below (QI D (t3 cI cZ cJ) w0 (wE cI cZ ad r.2 rest) s.heap.size r.1) args s 0 0 (va_A w0 s.heap.size)) (wE cI cZ ad S rest) 0 0 99 [(0, .ref (ad 27)), (1, .int x1)] [] := by
  unfold X1_truthFor_b99 at h
  refine x_aload_n C 0 dX1_truthFor_99 rfl ?_
  refine x_get C (R' := RX1) (T := TX1) (N := 5) (ci := 1) 27 3 rfl rfl (by decide) rfl rfl hi_X1_truthFor_1 lk_X1_truthFor_21 dX1_truthFor_100 ?_
  refine x_iload_n C 1 dX1_truthFor_103 rfl ?_
  obtain ⟨v104, hg104, h⟩ := ob h
  refine x_ci0 (x_runSN C (As := [.ref (ad 31), .int x1]) (rest := []) (c_X5_at 31 rfl hg104) (cw_X1_truthFor_X5_at_36 C) rfl (Nat.le_of_ble_eq_true rfl) dX1_truthFor_104 ⟨Nat.zero_le _, Nat.zero_le _⟩) ?_
  obtain rfl := Option.some.inj h
  exact x_iret C dX1_truthFor_107
def X1_truthFor_b93 (S : St) (x1 x3 x4 : Int32) : Option ((St × Int32 × Int32 × Int32) ⊕ (Int32 × St)) :=
  some (.inl (S, x1, x3, x4 + 1))
set_option maxHeartbeats 4000000 in
set_option maxRecDepth 100000 in
theorem X_X1_truthFor_b93 {p : Program} {l : Launch} {e : Env} {s : State} {m : MethodId} {args : Array Value} {below : List Frame} {meth : Method} {c : Code} {D : va_G} {cI cZ cJ : ClassId} {ad : Nat → Nat} {rest w0 : va_W} (C : XC p rm_X1_truthFor s m args meth c cX1_truthFor 8 (some .int) RX1 wsX1_truthFor D (t3 cI cZ cJ)) {S : St} {x1 x3 x4 : Int32} {z : (St × Int32 × Int32 × Int32) ⊕ (Int32 × St)} {r : Int32 × St} (h : X1_truthFor_b93 S x1 x3 x4 = some z) (hk : ∀ a' : (St × Int32 × Int32 × Int32), z = .inl a' → XW p l e rm_X1_truthFor s m args below meth c D w0 8 (MQ below (QI D (t3 cI cZ cJ) w0 (wE cI cZ ad r.2 rest) s.heap.size r.1) args s 0 0 (va_A w0 s.heap.size)) (wE cI cZ ad a'.1 rest) 0 0 3 [(0, .ref (ad 27)), (1, .int a'.2.1), (2, .ref (ad 0)), (3, .int a'.2.2.1), (4, .int a'.2.2.2)] []) (hr : ∀ r', z = .inr r' → r' = r) : XW p l e rm_X1_truthFor s m args below meth c D w0 8 (MQ below (QI D (t3 cI cZ cJ) w0 (wE cI cZ ad r.2 rest) s.heap.size r.1) args s 0 0 (va_A w0 s.heap.size)) (wE cI cZ ad S rest) 0 0 93 [(0, .ref (ad 27)), (1, .int x1), (2, .ref (ad 0)), (3, .int x3), (4, .int x4)] [] := by
  unfold X1_truthFor_b93 at h
  refine x_iinc C (v := x4 + 1) (lv' := [(0, .ref (ad 27)), (1, .int x1), (2, .ref (ad 0)), (3, .int x3), (4, .int (x4 + 1))]) 4 dX1_truthFor_93 rfl rfl (by decide) rfl ?_
  refine x_goto C (t := 3) dX1_truthFor_96 (by decide) ?_
  exact hk _ (Option.some.inj h).symm
def X1_truthFor_b92 (S : St) (x1 x3 x4 s0 s1 : Int32) : Option ((St × Int32 × Int32 × Int32) ⊕ (Int32 × St)) :=
  if inB s1 20 then (X1_truthFor_b93 (up S 31 (upd (S 31) s1.toNatClampNeg s0)) x1 x3 x4) else none
set_option maxHeartbeats 4000000 in
set_option maxRecDepth 100000 in
theorem X_X1_truthFor_b92 {p : Program} {l : Launch} {e : Env} {s : State} {m : MethodId} {args : Array Value} {below : List Frame} {meth : Method} {c : Code} {D : va_G} {cI cZ cJ : ClassId} {ad : Nat → Nat} {rest w0 : va_W} (C : XC p rm_X1_truthFor s m args meth c cX1_truthFor 8 (some .int) RX1 wsX1_truthFor D (t3 cI cZ cJ)) {S : St} {x1 x3 x4 s0 s1 : Int32} {z : (St × Int32 × Int32 × Int32) ⊕ (Int32 × St)} {r : Int32 × St} (h : X1_truthFor_b92 S x1 x3 x4 s0 s1 = some z) (hk : ∀ a' : (St × Int32 × Int32 × Int32), z = .inl a' → XW p l e rm_X1_truthFor s m args below meth c D w0 8 (MQ below (QI D (t3 cI cZ cJ) w0 (wE cI cZ ad r.2 rest) s.heap.size r.1) args s 0 0 (va_A w0 s.heap.size)) (wE cI cZ ad a'.1 rest) 0 0 3 [(0, .ref (ad 27)), (1, .int a'.2.1), (2, .ref (ad 0)), (3, .int a'.2.2.1), (4, .int a'.2.2.2)] []) (hr : ∀ r', z = .inr r' → r' = r) : XW p l e rm_X1_truthFor s m args below meth c D w0 8 (MQ below (QI D (t3 cI cZ cJ) w0 (wE cI cZ ad r.2 rest) s.heap.size r.1) args s 0 0 (va_A w0 s.heap.size)) (wE cI cZ ad S rest) 0 0 92 [(0, .ref (ad 27)), (1, .int x1), (2, .ref (ad 0)), (3, .int x3), (4, .int x4)] [.int s0, .int s1, .ref (ad 31)] := by
  unfold X1_truthFor_b92 at h
  obtain ⟨g92, h⟩ := gdB h
  refine x_iast C 31 rfl g92 dX1_truthFor_92 (wE_s31 cI cZ ad S rest (upd (S 31) s1.toNatClampNeg s0)) ?_
  exact X_X1_truthFor_b93 C h hk hr
def X1_truthFor_H3 (S : St) (x1 x3 x4 : Int32) : Option ((St × Int32 × Int32 × Int32) ⊕ (Int32 × St)) :=
  if x1 < x4 then (exI (X1_truthFor_b99 S x1)) else (if 20 ≤ x4 then (exI (X1_truthFor_b99 S x1)) else (if inB x4 20 then (if inB x4 20 then (if inB x4 20 then (if 3 ≤ (S 28 x4.toNatClampNeg) then ((X5_at 20 (S 31) (S 29 x4.toNatClampNeg)).bind fun v77 => (X5_at 20 (S 31) (S 30 x4.toNatClampNeg)).bind fun v86 => (X1_truthOfJoin (S 28 x4.toNatClampNeg) v77 v86).bind fun v89 => X1_truthFor_b92 S x1 x3 x4 v89 x4) else ((X1_truthOfTest S (S 28 x4.toNatClampNeg) (S 29 x4.toNatClampNeg) (S 30 x4.toNatClampNeg) x3).bind fun v63 => X1_truthFor_b92 S x1 x3 x4 v63 x4)) else none) else none) else none))
set_option maxHeartbeats 4000000 in
set_option maxRecDepth 100000 in
theorem X_X1_truthFor_H3 {p : Program} {l : Launch} {e : Env} {s : State} {m : MethodId} {args : Array Value} {below : List Frame} {meth : Method} {c : Code} {D : va_G} {cI cZ cJ : ClassId} {ad : Nat → Nat} {rest w0 : va_W} (C : XC p rm_X1_truthFor s m args meth c cX1_truthFor 8 (some .int) RX1 wsX1_truthFor D (t3 cI cZ cJ)) {S : St} {x1 x3 x4 : Int32} {z : (St × Int32 × Int32 × Int32) ⊕ (Int32 × St)} {r : Int32 × St} (h : X1_truthFor_H3 S x1 x3 x4 = some z) (hk : ∀ a' : (St × Int32 × Int32 × Int32), z = .inl a' → XW p l e rm_X1_truthFor s m args below meth c D w0 8 (MQ below (QI D (t3 cI cZ cJ) w0 (wE cI cZ ad r.2 rest) s.heap.size r.1) args s 0 0 (va_A w0 s.heap.size)) (wE cI cZ ad a'.1 rest) 0 0 3 [(0, .ref (ad 27)), (1, .int a'.2.1), (2, .ref (ad 0)), (3, .int a'.2.2.1), (4, .int a'.2.2.2)] []) (hr : ∀ r', z = .inr r' → r' = r) : XW p l e rm_X1_truthFor s m args below meth c D w0 8 (MQ below (QI D (t3 cI cZ cJ) w0 (wE cI cZ ad r.2 rest) s.heap.size r.1) args s 0 0 (va_A w0 s.heap.size)) (wE cI cZ ad S rest) 0 0 3 [(0, .ref (ad 27)), (1, .int x1), (2, .ref (ad 0)), (3, .int x3), (4, .int x4)] [] := by
  unfold X1_truthFor_H3 at h
  refine x_iload C 4 dX1_truthFor_3 rfl ?_
  refine x_iload_n C 1 dX1_truthFor_5 rfl ?_
  refine x_icmp_gt C (t := 99) dX1_truthFor_6 (by decide) (fun c6 => ?_) (fun c6 => ?_)
  · replace h := (if_pos c6).symm.trans h
    refine x_locals (lv' := [(0, .ref (ad 27)), (1, .int x1)]) [0, 1] rfl ?_
    obtain ⟨r1, h1, h2⟩ := exI_some h
    obtain rfl := hr r1 h2
    exact X_X1_truthFor_b99 C h1
  · replace h := (if_neg c6).symm.trans h
    refine x_iload C 4 dX1_truthFor_9 rfl ?_
    refine x_bipush C (v := 20) dX1_truthFor_11 (by decide) ?_
    refine x_icmp_ge C (t := 99) dX1_truthFor_13 (by decide) (fun c13 => ?_) (fun c13 => ?_)
    · replace h := (if_pos c13).symm.trans h
      refine x_locals (lv' := [(0, .ref (ad 27)), (1, .int x1)]) [0, 1] rfl ?_
      obtain ⟨r1, h1, h2⟩ := exI_some h
      obtain rfl := hr r1 h2
      exact X_X1_truthFor_b99 C h1
    · replace h := (if_neg c13).symm.trans h
      refine x_aload_n C 0 dX1_truthFor_16 rfl ?_
      refine x_get C (R' := RX1) (T := TX1) (N := 5) (ci := 1) 27 0 rfl rfl (by decide) rfl rfl hi_X1_truthFor_1 lk_X1_truthFor_9 dX1_truthFor_17 ?_
      refine x_iload C 4 dX1_truthFor_20 rfl ?_
      obtain ⟨g22, h⟩ := gdB h
      refine x_iald C 28 rfl g22 dX1_truthFor_22 ?_
      refine x_istore C (lv' := [(0, .ref (ad 27)), (1, .int x1), (2, .ref (ad 0)), (3, .int x3), (4, .int x4), (5, .int (S 28 x4.toNatClampNeg))]) dX1_truthFor_23 (by decide) rfl ?_
      refine x_aload_n C 0 dX1_truthFor_25 rfl ?_
      refine x_get C (R' := RX1) (T := TX1) (N := 5) (ci := 1) 27 1 rfl rfl (by decide) rfl rfl hi_X1_truthFor_1 lk_X1_truthFor_15 dX1_truthFor_26 ?_
      refine x_iload C 4 dX1_truthFor_29 rfl ?_
      obtain ⟨g31, h⟩ := gdB h
      refine x_iald C 29 rfl g31 dX1_truthFor_31 ?_
      refine x_istore C (lv' := [(0, .ref (ad 27)), (1, .int x1), (2, .ref (ad 0)), (3, .int x3), (4, .int x4), (5, .int (S 28 x4.toNatClampNeg)), (6, .int (S 29 x4.toNatClampNeg))]) dX1_truthFor_32 (by decide) rfl ?_
      refine x_aload_n C 0 dX1_truthFor_34 rfl ?_
      refine x_get C (R' := RX1) (T := TX1) (N := 5) (ci := 1) 27 2 rfl rfl (by decide) rfl rfl hi_X1_truthFor_1 lk_X1_truthFor_18 dX1_truthFor_35 ?_
      refine x_iload C 4 dX1_truthFor_38 rfl ?_
      obtain ⟨g40, h⟩ := gdB h
      refine x_iald C 30 rfl g40 dX1_truthFor_40 ?_
      refine x_istore C (lv' := [(0, .ref (ad 27)), (1, .int x1), (2, .ref (ad 0)), (3, .int x3), (4, .int x4), (5, .int (S 28 x4.toNatClampNeg)), (6, .int (S 29 x4.toNatClampNeg)), (7, .int (S 30 x4.toNatClampNeg))]) dX1_truthFor_41 (by decide) rfl ?_
      refine x_aload_n C 0 dX1_truthFor_43 rfl ?_
      refine x_get C (R' := RX1) (T := TX1) (N := 5) (ci := 1) 27 3 rfl rfl (by decide) rfl rfl hi_X1_truthFor_1 lk_X1_truthFor_21 dX1_truthFor_44 ?_
      refine x_iload C 4 dX1_truthFor_47 rfl ?_
      refine x_iload C 5 dX1_truthFor_49 rfl ?_
      refine x_iconst C (v := 3) dX1_truthFor_51 (by decide) ?_
      refine x_icmp_ge C (t := 69) dX1_truthFor_52 (by decide) (fun c52 => ?_) (fun c52 => ?_)
      · replace h := (if_pos c52).symm.trans h
        refine x_iload C 5 dX1_truthFor_69 rfl ?_
        refine x_aload_n C 0 dX1_truthFor_71 rfl ?_
        refine x_get C (R' := RX1) (T := TX1) (N := 5) (ci := 1) 27 3 rfl rfl (by decide) rfl rfl hi_X1_truthFor_1 lk_X1_truthFor_21 dX1_truthFor_72 ?_
        refine x_iload C 6 dX1_truthFor_75 rfl ?_
        obtain ⟨v77, hg77, h⟩ := ob h
        refine x_ci0 (x_runSN C (As := [.ref (ad 31), .int (S 29 x4.toNatClampNeg)]) (rest := [.int (S 28 x4.toNatClampNeg), .int x4, .ref (ad 31)]) (c_X5_at 31 rfl hg77) (cw_X1_truthFor_X5_at_36 C) rfl (Nat.le_of_ble_eq_true rfl) dX1_truthFor_77 ⟨Nat.zero_le _, Nat.zero_le _⟩) ?_
        refine x_aload_n C 0 dX1_truthFor_80 rfl ?_
        refine x_get C (R' := RX1) (T := TX1) (N := 5) (ci := 1) 27 3 rfl rfl (by decide) rfl rfl hi_X1_truthFor_1 lk_X1_truthFor_21 dX1_truthFor_81 ?_
        refine x_iload C 7 dX1_truthFor_84 rfl ?_
        obtain ⟨v86, hg86, h⟩ := ob h
        refine x_ci0 (x_runSN C (As := [.ref (ad 31), .int (S 30 x4.toNatClampNeg)]) (rest := [.int v77, .int (S 28 x4.toNatClampNeg), .int x4, .ref (ad 31)]) (c_X5_at 31 rfl hg86) (cw_X1_truthFor_X5_at_36 C) rfl (Nat.le_of_ble_eq_true rfl) dX1_truthFor_86 ⟨Nat.zero_le _, Nat.zero_le _⟩) ?_
        obtain ⟨v89, hg89, h⟩ := ob h
        refine x_ci0 (x_runS C (As := [.int (S 28 x4.toNatClampNeg), .int v77, .int v86]) (rest := [.int x4, .ref (ad 31)]) (c_X1_truthOfJoin hg89) (cw_X1_truthFor_X1_truthOfJoin_40 C) rfl (Nat.le_of_ble_eq_true rfl) dX1_truthFor_89 ⟨Nat.zero_le _, Nat.zero_le _⟩) ?_
        refine x_locals (lv' := [(0, .ref (ad 27)), (1, .int x1), (2, .ref (ad 0)), (3, .int x3), (4, .int x4)]) [0, 1, 2, 3, 4] rfl ?_
        exact X_X1_truthFor_b92 C h hk hr
      · replace h := (if_neg c52).symm.trans h
        refine x_iload C 5 dX1_truthFor_55 rfl ?_
        refine x_iload C 6 dX1_truthFor_57 rfl ?_
        refine x_iload C 7 dX1_truthFor_59 rfl ?_
        refine x_aload_n C 2 dX1_truthFor_61 rfl ?_
        refine x_iload_n C 3 dX1_truthFor_62 rfl ?_
        obtain ⟨v63, hg63, h⟩ := ob h
        refine x_ci0 (x_runS C (As := [.int (S 28 x4.toNatClampNeg), .int (S 29 x4.toNatClampNeg), .int (S 30 x4.toNatClampNeg), .ref (ad 0), .int x3]) (rest := [.int x4, .ref (ad 31)]) (c_X1_truthOfTest hg63) (cw_X1_truthFor_X1_truthOfTest_32 C) rfl (Nat.le_of_ble_eq_true rfl) dX1_truthFor_63 ⟨Nat.zero_le _, Nat.zero_le _⟩) ?_
        refine x_goto C (t := 92) dX1_truthFor_66 (by decide) ?_
        refine x_locals (lv' := [(0, .ref (ad 27)), (1, .int x1), (2, .ref (ad 0)), (3, .int x3), (4, .int x4)]) [0, 1, 2, 3, 4] rfl ?_
        exact X_X1_truthFor_b92 C h hk hr
def X1_truthFor_L3 (S : St) (x1 x3 x4 : Int32) : Option (Int32 × St) := wloop (fun a' : (St × Int32 × Int32 × Int32) => X1_truthFor_H3 a'.1 a'.2.1 a'.2.2.1 a'.2.2.2) 1000 (S, x1, x3, x4)
set_option maxHeartbeats 4000000 in
set_option maxRecDepth 100000 in
theorem X_X1_truthFor_L3 {p : Program} {l : Launch} {e : Env} {s : State} {m : MethodId} {args : Array Value} {below : List Frame} {meth : Method} {c : Code} {D : va_G} {cI cZ cJ : ClassId} {ad : Nat → Nat} {rest w0 : va_W} (C : XC p rm_X1_truthFor s m args meth c cX1_truthFor 8 (some .int) RX1 wsX1_truthFor D (t3 cI cZ cJ)) {S : St} {x1 x3 x4 : Int32} {r : Int32 × St} (h : X1_truthFor_L3 S x1 x3 x4 = some r) : XW p l e rm_X1_truthFor s m args below meth c D w0 8 (MQ below (QI D (t3 cI cZ cJ) w0 (wE cI cZ ad r.2 rest) s.heap.size r.1) args s 0 0 (va_A w0 s.heap.size)) (wE cI cZ ad S rest) 0 0 3 [(0, .ref (ad 27)), (1, .int x1), (2, .ref (ad 0)), (3, .int x3), (4, .int x4)] [] :=
  wloop_met (P := (fun a' : (St × Int32 × Int32 × Int32) => XW p l e rm_X1_truthFor s m args below meth c D w0 8 (MQ below (QI D (t3 cI cZ cJ) w0 (wE cI cZ ad r.2 rest) s.heap.size r.1) args s 0 0 (va_A w0 s.heap.size)) (wE cI cZ ad a'.1 rest) 0 0 3 [(0, .ref (ad 27)), (1, .int a'.2.1), (2, .ref (ad 0)), (3, .int a'.2.2.1), (4, .int a'.2.2.2)] [])) (fun _ _ hz hk hr => X_X1_truthFor_H3 C hz hk hr) 1000 (S, x1, x3, x4) h
def X1_truthFor (S : St) (x1 x3 : Int32) : Option (Int32 × St) :=
  X1_truthFor_L3 S x1 x3 0
set_option maxHeartbeats 4000000 in
set_option maxRecDepth 100000 in
theorem X_X1_truthFor {p : Program} {l : Launch} {e : Env} {s : State} {m : MethodId} {args : Array Value} {below : List Frame} {meth : Method} {c : Code} {D : va_G} {cI cZ cJ : ClassId} {ad : Nat → Nat} {rest w0 : va_W} (C : XC p rm_X1_truthFor s m args meth c cX1_truthFor 8 (some .int) RX1 wsX1_truthFor D (t3 cI cZ cJ)) {S : St} {x1 x3 : Int32} {r : Int32 × St} (h : X1_truthFor S x1 x3 = some r) : XW p l e rm_X1_truthFor s m args below meth c D w0 8 (MQ below (QI D (t3 cI cZ cJ) w0 (wE cI cZ ad r.2 rest) s.heap.size r.1) args s 0 0 (va_A w0 s.heap.size)) (wE cI cZ ad S rest) 0 0 0 [(0, .ref (ad 27)), (1, .int x1), (2, .ref (ad 0)), (3, .int x3)] [] := by
  unfold X1_truthFor at h
  refine x_iconst C (v := 0) dX1_truthFor_0 (by decide) ?_
  refine x_istore C (lv' := [(0, .ref (ad 27)), (1, .int x1), (2, .ref (ad 0)), (3, .int x3), (4, .int 0)]) dX1_truthFor_1 (by decide) rfl ?_
  exact X_X1_truthFor_L3 C h
set_option maxRecDepth 100000 in
theorem c_X1_truthFor {l : Launch} {D : va_G} {cI cZ cJ : ClassId} {ad : Nat → Nat} {S : St} {rest : va_W} {x1 x3 : Int32} {r : Int32 × St} (h : X1_truthFor S x1 x3 = some r) : ∀ sz, Met l yX1_truthFor wsX1_truthFor rm_X1_truthFor (PC D (t3 cI cZ cJ) [.ref (ad 27), .int x1, .ref (ad 0), .int x3] (wE cI cZ ad S rest) sz) (QI D (t3 cI cZ cJ) (wE cI cZ ad S rest) (wE cI cZ ad r.2 rest) sz r.1) 0 0 (va_A (wE cI cZ ad S rest) sz) := by
  refine x_met (Qc := fun sz => QI D (t3 cI cZ cJ) (wE cI cZ ad S rest) (wE cI cZ ad r.2 rest) sz r.1) RX1 rfl (by decide) rfl (Nat.le_of_ble_eq_true rfl) (fun p e s m args below meth c C => ?_)
  exact X_X1_truthFor C h
/-! EntryMasters$Log.append(IIIIII)I -/
abbrev rm_X2_append : Room := { frames := 1, cells := 0, slots := 0, locals := 22 }
theorem hi_X2_append_2 : ∀ z ∈ u_ws RX2 TX2 7, z ∈ wsX2_append := by decide +kernel
theorem lk_X2_append_9 : Cond.fieldLink RX2 9 RX2 "kinds" "[I" ∈ wsX2_append := by decide +kernel
theorem lk_X2_append_15 : Cond.fieldLink RX2 15 RX2 "stamps" "[I" ∈ wsX2_append := by decide +kernel
theorem lk_X2_append_18 : Cond.fieldLink RX2 18 RX2 "entries" "[I" ∈ wsX2_append := by decide +kernel
theorem lk_X2_append_21 : Cond.fieldLink RX2 21 RX2 "targets" "[I" ∈ wsX2_append := by decide +kernel
theorem lk_X2_append_24 : Cond.fieldLink RX2 24 RX2 "contents" "[I" ∈ wsX2_append := by decide +kernel
theorem lk_X2_append_27 : Cond.fieldLink RX2 27 RX2 "classesOfAdded" "[I" ∈ wsX2_append := by decide +kernel
theorem lk_X2_append_30 : Cond.fieldLink RX2 30 RX2 "count" "I" ∈ wsX2_append := by decide +kernel
theorem cw_X2_append_X5_put_34 {p : Program} {s : State} {m : MethodId} {args : Array Value} {meth : Method} {c : Code} {D : va_G} {tys : List (ClassId × FieldType)} {R : Room} (C : XC p R s m args meth c cX2_append 8 (some .int) RX2 wsX2_append D tys) : va_CN rm_X2_append s args RX2 34 yX5_put RX5 cX5_put 3 none wsX5_put rm_X5_put 0 0 3 ∧ (Cond.static yX5_put).before args s = true ∧ True := ⟨va_cnB 3 C.2.2.2.2.1 gX2_append_X5_put_n34 rfl rfl rfl (C.2.2.2.2.2.2.1.1 _ (nm_mem 5 rfl)) (C.2.2.2.2.1 (.initialized RX5) (by decide +kernel)) (by decide +kernel) ⟨Nat.le_of_ble_eq_true rfl, Nat.le_of_ble_eq_true rfl⟩, C.2.2.2.2.1 (.static yX5_put) (by decide +kernel), trivial⟩
def X2_append_b79 (S : St) (x7 : Int32) : Option (Int32 × St) :=
  some (x7, S)
set_option maxHeartbeats 4000000 in
set_option maxRecDepth 100000 in
theorem X_X2_append_b79 {p : Program} {l : Launch} {e : Env} {s : State} {m : MethodId} {args : Array Value} {below : List Frame} {meth : Method} {c : Code} {D : va_G} {cI cZ cJ : ClassId} {ad : Nat → Nat} {rest w0 : va_W} (C : XC p rm_X2_append s m args meth c cX2_append 8 (some .int) RX2 wsX2_append D (t3 cI cZ cJ)) {S : St} {x7 : Int32} {r : Int32 × St} (h : X2_append_b79 S x7 = some r) : XW p l e rm_X2_append s m args below meth c D w0 8 (MQ below (QI D (t3 cI cZ cJ) w0 (wE cI cZ ad r.2 rest) s.heap.size r.1) args s 0 0 (va_A w0 s.heap.size)) (wE cI cZ ad S rest) 0 0 79 [(7, .int x7)] [] := by
  unfold X2_append_b79 at h
  refine x_iload C 0 dX2_append_79 rfl ?_
  obtain rfl := Option.some.inj h
  exact x_iret C dX2_append_81
def X2_append_b69 (S : St) (x7 : Int32) : Option (Int32 × St) :=
  X2_append_b79 (up S 14 (upd (S 14) 6 ((S 14 6) + 1))) x7
set_option maxHeartbeats 4000000 in
set_option maxRecDepth 100000 in
theorem X_X2_append_b69 {p : Program} {l : Launch} {e : Env} {s : State} {m : MethodId} {args : Array Value} {below : List Frame} {meth : Method} {c : Code} {D : va_G} {cI cZ cJ : ClassId} {ad : Nat → Nat} {rest w0 : va_W} (C : XC p rm_X2_append s m args meth c cX2_append 8 (some .int) RX2 wsX2_append D (t3 cI cZ cJ)) {S : St} {x7 : Int32} {r : Int32 × St} (h : X2_append_b69 S x7 = some r) : XW p l e rm_X2_append s m args below meth c D w0 8 (MQ below (QI D (t3 cI cZ cJ) w0 (wE cI cZ ad r.2 rest) s.heap.size r.1) args s 0 0 (va_A w0 s.heap.size)) (wE cI cZ ad S rest) 0 0 69 [(0, .ref (ad 14)), (7, .int x7)] [] := by
  unfold X2_append_b69 at h
  refine x_aload_n C 0 dX2_append_69 rfl ?_
  refine x_dup C dX2_append_70 rfl ?_
  refine x_get C (R' := RX2) (T := TX2) (N := 7) (ci := 2) 14 6 rfl rfl (by decide) rfl rfl hi_X2_append_2 lk_X2_append_30 dX2_append_71 ?_
  refine x_iconst C (v := 1) dX2_append_74 (by decide) ?_
  refine x_iadd C dX2_append_75 ?_
  refine x_put C (R' := RX2) (T := TX2) (N := 7) (ci := 2) tyX2 tyX2_ok nmX2 14 6 rfl rfl (by decide) rfl rfl (lt_ble rfl) rfl hi_X2_append_2 lk_X2_append_30 dX2_append_76 (wE_f14_6 cI cZ ad S rest ((S 14 6) + 1)) ?_
  refine x_locals (lv' := [(7, .int x7)]) [1] rfl ?_
  exact X_X2_append_b79 C h
def X2_append_b58 (S : St) (x6 x7 : Int32) : Option (Int32 × St) :=
  (X5_put 40 (S 20) x7 x6).bind fun f66 => X2_append_b69 (up S 20 f66) x7
set_option maxHeartbeats 4000000 in
set_option maxRecDepth 100000 in
theorem X_X2_append_b58 {p : Program} {l : Launch} {e : Env} {s : State} {m : MethodId} {args : Array Value} {below : List Frame} {meth : Method} {c : Code} {D : va_G} {cI cZ cJ : ClassId} {ad : Nat → Nat} {rest w0 : va_W} (C : XC p rm_X2_append s m args meth c cX2_append 8 (some .int) RX2 wsX2_append D (t3 cI cZ cJ)) {S : St} {x6 x7 : Int32} {r : Int32 × St} (h : X2_append_b58 S x6 x7 = some r) : XW p l e rm_X2_append s m args below meth c D w0 8 (MQ below (QI D (t3 cI cZ cJ) w0 (wE cI cZ ad r.2 rest) s.heap.size r.1) args s 0 0 (va_A w0 s.heap.size)) (wE cI cZ ad S rest) 0 0 58 [(0, .ref (ad 14)), (6, .int x6), (7, .int x7)] [] := by
  unfold X2_append_b58 at h
  refine x_aload_n C 0 dX2_append_58 rfl ?_
  refine x_get C (R' := RX2) (T := TX2) (N := 7) (ci := 2) 14 5 rfl rfl (by decide) rfl rfl hi_X2_append_2 lk_X2_append_27 dX2_append_59 ?_
  refine x_iload C 2 dX2_append_62 rfl ?_
  refine x_iload C 1 dX2_append_64 rfl ?_
  obtain ⟨f66, hg66, h⟩ := ob h
  refine x_cv0 (x_runSN C (As := [.ref (ad 20), .int x7, .int x6]) (rest := []) (c_X5_put 20 rfl hg66) (cw_X2_append_X5_put_34 C) rfl (Nat.le_of_ble_eq_true rfl) dX2_append_66 ⟨Nat.zero_le _, Nat.zero_le _⟩) ?_
  refine x_eqw (wE_s20 cI cZ ad S rest f66) ?_
  refine x_locals (lv' := [(0, .ref (ad 14)), (7, .int x7)]) [0, 2] rfl ?_
  exact X_X2_append_b69 C h
def X2_append_b47 (S : St) (x5 x6 x7 : Int32) : Option (Int32 × St) :=
  (X5_put 40 (S 19) x7 x5).bind fun f55 => X2_append_b58 (up S 19 f55) x6 x7
set_option maxHeartbeats 4000000 in
set_option maxRecDepth 100000 in
theorem X_X2_append_b47 {p : Program} {l : Launch} {e : Env} {s : State} {m : MethodId} {args : Array Value} {below : List Frame} {meth : Method} {c : Code} {D : va_G} {cI cZ cJ : ClassId} {ad : Nat → Nat} {rest w0 : va_W} (C : XC p rm_X2_append s m args meth c cX2_append 8 (some .int) RX2 wsX2_append D (t3 cI cZ cJ)) {S : St} {x5 x6 x7 : Int32} {r : Int32 × St} (h : X2_append_b47 S x5 x6 x7 = some r) : XW p l e rm_X2_append s m args below meth c D w0 8 (MQ below (QI D (t3 cI cZ cJ) w0 (wE cI cZ ad r.2 rest) s.heap.size r.1) args s 0 0 (va_A w0 s.heap.size)) (wE cI cZ ad S rest) 0 0 47 [(0, .ref (ad 14)), (5, .int x5), (6, .int x6), (7, .int x7)] [] := by
  unfold X2_append_b47 at h
  refine x_aload_n C 0 dX2_append_47 rfl ?_
  refine x_get C (R' := RX2) (T := TX2) (N := 7) (ci := 2) 14 4 rfl rfl (by decide) rfl rfl hi_X2_append_2 lk_X2_append_24 dX2_append_48 ?_
  refine x_iload C 3 dX2_append_51 rfl ?_
  refine x_iload C 1 dX2_append_53 rfl ?_
  obtain ⟨f55, hg55, h⟩ := ob h
  refine x_cv0 (x_runSN C (As := [.ref (ad 19), .int x7, .int x5]) (rest := []) (c_X5_put 19 rfl hg55) (cw_X2_append_X5_put_34 C) rfl (Nat.le_of_ble_eq_true rfl) dX2_append_55 ⟨Nat.zero_le _, Nat.zero_le _⟩) ?_
  refine x_eqw (wE_s19 cI cZ ad S rest f55) ?_
  refine x_locals (lv' := [(0, .ref (ad 14)), (6, .int x6), (7, .int x7)]) [0, 2, 3] rfl ?_
  exact X_X2_append_b58 C h
def X2_append_b36 (S : St) (x4 x5 x6 x7 : Int32) : Option (Int32 × St) :=
  (X5_put 40 (S 18) x7 x4).bind fun f44 => X2_append_b47 (up S 18 f44) x5 x6 x7
set_option maxHeartbeats 4000000 in
set_option maxRecDepth 100000 in
theorem X_X2_append_b36 {p : Program} {l : Launch} {e : Env} {s : State} {m : MethodId} {args : Array Value} {below : List Frame} {meth : Method} {c : Code} {D : va_G} {cI cZ cJ : ClassId} {ad : Nat → Nat} {rest w0 : va_W} (C : XC p rm_X2_append s m args meth c cX2_append 8 (some .int) RX2 wsX2_append D (t3 cI cZ cJ)) {S : St} {x4 x5 x6 x7 : Int32} {r : Int32 × St} (h : X2_append_b36 S x4 x5 x6 x7 = some r) : XW p l e rm_X2_append s m args below meth c D w0 8 (MQ below (QI D (t3 cI cZ cJ) w0 (wE cI cZ ad r.2 rest) s.heap.size r.1) args s 0 0 (va_A w0 s.heap.size)) (wE cI cZ ad S rest) 0 0 36 [(0, .ref (ad 14)), (4, .int x4), (5, .int x5), (6, .int x6), (7, .int x7)] [] := by
  unfold X2_append_b36 at h
  refine x_aload_n C 0 dX2_append_36 rfl ?_
  refine x_get C (R' := RX2) (T := TX2) (N := 7) (ci := 2) 14 3 rfl rfl (by decide) rfl rfl hi_X2_append_2 lk_X2_append_21 dX2_append_37 ?_
  refine x_iload C 4 dX2_append_40 rfl ?_
  refine x_iload C 1 dX2_append_42 rfl ?_
  obtain ⟨f44, hg44, h⟩ := ob h
  refine x_cv0 (x_runSN C (As := [.ref (ad 18), .int x7, .int x4]) (rest := []) (c_X5_put 18 rfl hg44) (cw_X2_append_X5_put_34 C) rfl (Nat.le_of_ble_eq_true rfl) dX2_append_44 ⟨Nat.zero_le _, Nat.zero_le _⟩) ?_
  refine x_eqw (wE_s18 cI cZ ad S rest f44) ?_
  refine x_locals (lv' := [(0, .ref (ad 14)), (5, .int x5), (6, .int x6), (7, .int x7)]) [0, 2, 3, 4] rfl ?_
  exact X_X2_append_b47 C h
def X2_append_b26 (S : St) (x3 x4 x5 x6 x7 : Int32) : Option (Int32 × St) :=
  (X5_put 40 (S 17) x7 x3).bind fun f33 => X2_append_b36 (up S 17 f33) x4 x5 x6 x7
set_option maxHeartbeats 4000000 in
set_option maxRecDepth 100000 in
theorem X_X2_append_b26 {p : Program} {l : Launch} {e : Env} {s : State} {m : MethodId} {args : Array Value} {below : List Frame} {meth : Method} {c : Code} {D : va_G} {cI cZ cJ : ClassId} {ad : Nat → Nat} {rest w0 : va_W} (C : XC p rm_X2_append s m args meth c cX2_append 8 (some .int) RX2 wsX2_append D (t3 cI cZ cJ)) {S : St} {x3 x4 x5 x6 x7 : Int32} {r : Int32 × St} (h : X2_append_b26 S x3 x4 x5 x6 x7 = some r) : XW p l e rm_X2_append s m args below meth c D w0 8 (MQ below (QI D (t3 cI cZ cJ) w0 (wE cI cZ ad r.2 rest) s.heap.size r.1) args s 0 0 (va_A w0 s.heap.size)) (wE cI cZ ad S rest) 0 0 26 [(0, .ref (ad 14)), (3, .int x3), (4, .int x4), (5, .int x5), (6, .int x6), (7, .int x7)] [] := by
  unfold X2_append_b26 at h
  refine x_aload_n C 0 dX2_append_26 rfl ?_
  refine x_get C (R' := RX2) (T := TX2) (N := 7) (ci := 2) 14 2 rfl rfl (by decide) rfl rfl hi_X2_append_2 lk_X2_append_18 dX2_append_27 ?_
  refine x_iload C 5 dX2_append_30 rfl ?_
  refine x_iload_n C 1 dX2_append_32 rfl ?_
  obtain ⟨f33, hg33, h⟩ := ob h
  refine x_cv0 (x_runSN C (As := [.ref (ad 17), .int x7, .int x3]) (rest := []) (c_X5_put 17 rfl hg33) (cw_X2_append_X5_put_34 C) rfl (Nat.le_of_ble_eq_true rfl) dX2_append_33 ⟨Nat.zero_le _, Nat.zero_le _⟩) ?_
  refine x_eqw (wE_s17 cI cZ ad S rest f33) ?_
  refine x_locals (lv' := [(0, .ref (ad 14)), (4, .int x4), (5, .int x5), (6, .int x6), (7, .int x7)]) [0, 2, 3, 4, 5] rfl ?_
  exact X_X2_append_b36 C h
def X2_append_b16 (S : St) (x2 x3 x4 x5 x6 x7 : Int32) : Option (Int32 × St) :=
  (X5_put 40 (S 16) x7 x2).bind fun f23 => X2_append_b26 (up S 16 f23) x3 x4 x5 x6 x7
set_option maxHeartbeats 4000000 in
set_option maxRecDepth 100000 in
theorem X_X2_append_b16 {p : Program} {l : Launch} {e : Env} {s : State} {m : MethodId} {args : Array Value} {below : List Frame} {meth : Method} {c : Code} {D : va_G} {cI cZ cJ : ClassId} {ad : Nat → Nat} {rest w0 : va_W} (C : XC p rm_X2_append s m args meth c cX2_append 8 (some .int) RX2 wsX2_append D (t3 cI cZ cJ)) {S : St} {x2 x3 x4 x5 x6 x7 : Int32} {r : Int32 × St} (h : X2_append_b16 S x2 x3 x4 x5 x6 x7 = some r) : XW p l e rm_X2_append s m args below meth c D w0 8 (MQ below (QI D (t3 cI cZ cJ) w0 (wE cI cZ ad r.2 rest) s.heap.size r.1) args s 0 0 (va_A w0 s.heap.size)) (wE cI cZ ad S rest) 0 0 16 [(0, .ref (ad 14)), (2, .int x2), (3, .int x3), (4, .int x4), (5, .int x5), (6, .int x6), (7, .int x7)] [] := by
  unfold X2_append_b16 at h
  refine x_aload_n C 0 dX2_append_16 rfl ?_
  refine x_get C (R' := RX2) (T := TX2) (N := 7) (ci := 2) 14 1 rfl rfl (by decide) rfl rfl hi_X2_append_2 lk_X2_append_15 dX2_append_17 ?_
  refine x_iload C 6 dX2_append_20 rfl ?_
  refine x_iload_n C 1 dX2_append_22 rfl ?_
  obtain ⟨f23, hg23, h⟩ := ob h
  refine x_cv0 (x_runSN C (As := [.ref (ad 16), .int x7, .int x2]) (rest := []) (c_X5_put 16 rfl hg23) (cw_X2_append_X5_put_34 C) rfl (Nat.le_of_ble_eq_true rfl) dX2_append_23 ⟨Nat.zero_le _, Nat.zero_le _⟩) ?_
  refine x_eqw (wE_s16 cI cZ ad S rest f23) ?_
  refine x_locals (lv' := [(0, .ref (ad 14)), (3, .int x3), (4, .int x4), (5, .int x5), (6, .int x6), (7, .int x7)]) [0, 2, 3, 4, 5, 6] rfl ?_
  exact X_X2_append_b26 C h
def X2_append (S : St) (x1 x2 x3 x4 x5 x6 : Int32) : Option (Int32 × St) :=
  (X5_put 40 (S 15) (S 14 6) x1).bind fun f13 => X2_append_b16 (up S 15 f13) x2 x3 x4 x5 x6 (S 14 6)
set_option maxHeartbeats 4000000 in
set_option maxRecDepth 100000 in
theorem X_X2_append {p : Program} {l : Launch} {e : Env} {s : State} {m : MethodId} {args : Array Value} {below : List Frame} {meth : Method} {c : Code} {D : va_G} {cI cZ cJ : ClassId} {ad : Nat → Nat} {rest w0 : va_W} (C : XC p rm_X2_append s m args meth c cX2_append 8 (some .int) RX2 wsX2_append D (t3 cI cZ cJ)) {S : St} {x1 x2 x3 x4 x5 x6 : Int32} {r : Int32 × St} (h : X2_append S x1 x2 x3 x4 x5 x6 = some r) : XW p l e rm_X2_append s m args below meth c D w0 8 (MQ below (QI D (t3 cI cZ cJ) w0 (wE cI cZ ad r.2 rest) s.heap.size r.1) args s 0 0 (va_A w0 s.heap.size)) (wE cI cZ ad S rest) 0 0 0 [(0, .ref (ad 14)), (1, .int x1), (2, .int x2), (3, .int x3), (4, .int x4), (5, .int x5), (6, .int x6)] [] := by
  unfold X2_append at h
  refine x_aload_n C 0 dX2_append_0 rfl ?_
  refine x_get C (R' := RX2) (T := TX2) (N := 7) (ci := 2) 14 6 rfl rfl (by decide) rfl rfl hi_X2_append_2 lk_X2_append_30 dX2_append_1 ?_
  refine x_istore C (lv' := [(0, .ref (ad 14)), (1, .int x1), (2, .int x2), (3, .int x3), (4, .int x4), (5, .int x5), (6, .int x6), (7, .int (S 14 6))]) dX2_append_4 (by decide) rfl ?_
  refine x_aload_n C 0 dX2_append_6 rfl ?_
  refine x_get C (R' := RX2) (T := TX2) (N := 7) (ci := 2) 14 0 rfl rfl (by decide) rfl rfl hi_X2_append_2 lk_X2_append_9 dX2_append_7 ?_
  refine x_iload C 7 dX2_append_10 rfl ?_
  refine x_iload_n C 1 dX2_append_12 rfl ?_
  obtain ⟨f13, hg13, h⟩ := ob h
  refine x_cv0 (x_runSN C (As := [.ref (ad 15), .int (S 14 6), .int x1]) (rest := []) (c_X5_put 15 rfl hg13) (cw_X2_append_X5_put_34 C) rfl (Nat.le_of_ble_eq_true rfl) dX2_append_13 ⟨Nat.zero_le _, Nat.zero_le _⟩) ?_
  refine x_eqw (wE_s15 cI cZ ad S rest f13) ?_
  refine x_locals (lv' := [(0, .ref (ad 14)), (2, .int x2), (3, .int x3), (4, .int x4), (5, .int x5), (6, .int x6), (7, .int (S 14 6))]) [0, 2, 3, 4, 5, 6, 7] rfl ?_
  exact X_X2_append_b16 C h
set_option maxRecDepth 100000 in
theorem c_X2_append {l : Launch} {D : va_G} {cI cZ cJ : ClassId} {ad : Nat → Nat} {S : St} {rest : va_W} {x1 x2 x3 x4 x5 x6 : Int32} {r : Int32 × St} (h : X2_append S x1 x2 x3 x4 x5 x6 = some r) : ∀ sz, Met l yX2_append wsX2_append rm_X2_append (PC D (t3 cI cZ cJ) [.ref (ad 14), .int x1, .int x2, .int x3, .int x4, .int x5, .int x6] (wE cI cZ ad S rest) sz) (QI D (t3 cI cZ cJ) (wE cI cZ ad S rest) (wE cI cZ ad r.2 rest) sz r.1) 0 0 (va_A (wE cI cZ ad S rest) sz) := by
  refine x_met (Qc := fun sz => QI D (t3 cI cZ cJ) (wE cI cZ ad S rest) (wE cI cZ ad r.2 rest) sz r.1) RX2 rfl (by decide) rfl (Nat.le_of_ble_eq_true rfl) (fun p e s m args below meth c C => ?_)
  exact X_X2_append C h
/-! EntryMasters$Log.stampFrom(II)I -/
abbrev rm_X2_stampFrom : Room := { frames := 0, cells := 0, slots := 0, locals := 0 }
def X2_stampFrom  (x0 x1 : Int32) : Option (Int32) :=
  some ((x0 * 2) + x1)
set_option maxHeartbeats 4000000 in
set_option maxRecDepth 100000 in
theorem X_X2_stampFrom {p : Program} {l : Launch} {e : Env} {s : State} {m : MethodId} {args : Array Value} {below : List Frame} {meth : Method} {c : Code} {D : va_G} {cI cZ cJ : ClassId} {w w0 : va_W} (C : XC p rm_X2_stampFrom s m args meth c cX2_stampFrom 2 (some .int) RX2 wsX2_stampFrom D (t3 cI cZ cJ)) {x0 x1 : Int32} {r : Int32} (h : X2_stampFrom x0 x1 = some r) : XW p l e rm_X2_stampFrom s m args below meth c D w0 2 (MQ below (QI D (t3 cI cZ cJ) w0 w s.heap.size r) args s 0 0 (va_A w0 s.heap.size)) w 0 0 0 [(0, .int x0), (1, .int x1)] [] := by
  unfold X2_stampFrom at h
  refine x_iload_n C 0 dX2_stampFrom_0 rfl ?_
  refine x_iconst C (v := 2) dX2_stampFrom_1 (by decide) ?_
  refine x_imul C dX2_stampFrom_2 ?_
  refine x_iload_n C 1 dX2_stampFrom_3 rfl ?_
  refine x_iadd C dX2_stampFrom_4 ?_
  obtain rfl := Option.some.inj h
  exact x_iret C dX2_stampFrom_5
set_option maxRecDepth 100000 in
theorem c_X2_stampFrom {l : Launch} {D : va_G} {cI cZ cJ : ClassId} {w : va_W} {x0 x1 : Int32} {r : Int32} (h : X2_stampFrom x0 x1 = some r) : ∀ sz, Met l yX2_stampFrom wsX2_stampFrom rm_X2_stampFrom (PC D (t3 cI cZ cJ) [.int x0, .int x1] w sz) (QI D (t3 cI cZ cJ) w w sz r) 0 0 (va_A w sz) := by
  refine x_met (Qc := fun sz => QI D (t3 cI cZ cJ) w w sz r) RX2 rfl (by decide) rfl (Nat.le_of_ble_eq_true rfl) (fun p e s m args below meth c C => ?_)
  exact X_X2_stampFrom C h
/-! EntryMasters$Log.stampAt(I)I -/
abbrev rm_X2_stampAt : Room := { frames := 1, cells := 0, slots := 0, locals := 21 }
theorem hi_X2_stampAt_2 : ∀ z ∈ u_ws RX2 TX2 7, z ∈ wsX2_stampAt := by decide +kernel
theorem lk_X2_stampAt_15 : Cond.fieldLink RX2 15 RX2 "stamps" "[I" ∈ wsX2_stampAt := by decide +kernel
theorem cw_X2_stampAt_X5_at_38 {p : Program} {s : State} {m : MethodId} {args : Array Value} {meth : Method} {c : Code} {D : va_G} {tys : List (ClassId × FieldType)} {R : Room} (C : XC p R s m args meth c cX2_stampAt 2 (some .int) RX2 wsX2_stampAt D tys) : va_CN rm_X2_stampAt s args RX2 38 yX5_at RX5 cX5_at 2 (some .int) wsX5_at rm_X5_at 0 0 2 ∧ (Cond.static yX5_at).before args s = true ∧ True := ⟨va_cnB 2 C.2.2.2.2.1 gX2_stampAt_X5_at_n38 rfl rfl rfl (C.2.2.2.2.2.2.1.1 _ (nm_mem 6 rfl)) (C.2.2.2.2.1 (.initialized RX5) (by decide +kernel)) (by decide +kernel) ⟨Nat.le_of_ble_eq_true rfl, Nat.le_of_ble_eq_true rfl⟩, C.2.2.2.2.1 (.static yX5_at) (by decide +kernel), trivial⟩
def X2_stampAt (S : St) (x1 : Int32) : Option (Int32) :=
  (X5_at 40 (S 16) x1).bind fun v5 => some v5
set_option maxHeartbeats 4000000 in
set_option maxRecDepth 100000 in
theorem X_X2_stampAt {p : Program} {l : Launch} {e : Env} {s : State} {m : MethodId} {args : Array Value} {below : List Frame} {meth : Method} {c : Code} {D : va_G} {cI cZ cJ : ClassId} {ad : Nat → Nat} {rest w0 : va_W} (C : XC p rm_X2_stampAt s m args meth c cX2_stampAt 2 (some .int) RX2 wsX2_stampAt D (t3 cI cZ cJ)) {S : St} {x1 : Int32} {r : Int32} (h : X2_stampAt S x1 = some r) : XW p l e rm_X2_stampAt s m args below meth c D w0 2 (MQ below (QI D (t3 cI cZ cJ) w0 (wE cI cZ ad S rest) s.heap.size r) args s 0 0 (va_A w0 s.heap.size)) (wE cI cZ ad S rest) 0 0 0 [(0, .ref (ad 14)), (1, .int x1)] [] := by
  unfold X2_stampAt at h
  refine x_aload_n C 0 dX2_stampAt_0 rfl ?_
  refine x_get C (R' := RX2) (T := TX2) (N := 7) (ci := 2) 14 1 rfl rfl (by decide) rfl rfl hi_X2_stampAt_2 lk_X2_stampAt_15 dX2_stampAt_1 ?_
  refine x_iload_n C 1 dX2_stampAt_4 rfl ?_
  obtain ⟨v5, hg5, h⟩ := ob h
  refine x_ci0 (x_runSN C (As := [.ref (ad 16), .int x1]) (rest := []) (c_X5_at 16 rfl hg5) (cw_X2_stampAt_X5_at_38 C) rfl (Nat.le_of_ble_eq_true rfl) dX2_stampAt_5 ⟨Nat.zero_le _, Nat.zero_le _⟩) ?_
  obtain rfl := Option.some.inj h
  exact x_iret C dX2_stampAt_8
set_option maxRecDepth 100000 in
theorem c_X2_stampAt {l : Launch} {D : va_G} {cI cZ cJ : ClassId} {ad : Nat → Nat} {S : St} {rest : va_W} {x1 : Int32} {r : Int32} (h : X2_stampAt S x1 = some r) : ∀ sz, Met l yX2_stampAt wsX2_stampAt rm_X2_stampAt (PC D (t3 cI cZ cJ) [.ref (ad 14), .int x1] (wE cI cZ ad S rest) sz) (QI D (t3 cI cZ cJ) (wE cI cZ ad S rest) (wE cI cZ ad S rest) sz r) 0 0 (va_A (wE cI cZ ad S rest) sz) := by
  refine x_met (Qc := fun sz => QI D (t3 cI cZ cJ) (wE cI cZ ad S rest) (wE cI cZ ad S rest) sz r) RX2 rfl (by decide) rfl (Nat.le_of_ble_eq_true rfl) (fun p e s m args below meth c C => ?_)
  exact X_X2_stampAt C h
/-! EntryMasters$Log.timeAt(I)I -/
abbrev rm_X2_timeAt : Room := { frames := 1, cells := 0, slots := 0, locals := 21 }
theorem hi_X2_timeAt_2 : ∀ z ∈ u_ws RX2 TX2 7, z ∈ wsX2_timeAt := by decide +kernel
theorem lk_X2_timeAt_15 : Cond.fieldLink RX2 15 RX2 "stamps" "[I" ∈ wsX2_timeAt := by decide +kernel
theorem cw_X2_timeAt_X5_at_38 {p : Program} {s : State} {m : MethodId} {args : Array Value} {meth : Method} {c : Code} {D : va_G} {tys : List (ClassId × FieldType)} {R : Room} (C : XC p R s m args meth c cX2_timeAt 2 (some .int) RX2 wsX2_timeAt D tys) : va_CN rm_X2_timeAt s args RX2 38 yX5_at RX5 cX5_at 2 (some .int) wsX5_at rm_X5_at 0 0 2 ∧ (Cond.static yX5_at).before args s = true ∧ True := ⟨va_cnB 2 C.2.2.2.2.1 gX2_timeAt_X5_at_n38 rfl rfl rfl (C.2.2.2.2.2.2.1.1 _ (nm_mem 6 rfl)) (C.2.2.2.2.1 (.initialized RX5) (by decide +kernel)) (by decide +kernel) ⟨Nat.le_of_ble_eq_true rfl, Nat.le_of_ble_eq_true rfl⟩, C.2.2.2.2.1 (.static yX5_at) (by decide +kernel), trivial⟩
def X2_timeAt (S : St) (x1 : Int32) : Option (Int32) :=
  (X5_at 40 (S 16) x1).bind fun v5 => some (v5 / 2)
set_option maxHeartbeats 4000000 in
set_option maxRecDepth 100000 in
theorem X_X2_timeAt {p : Program} {l : Launch} {e : Env} {s : State} {m : MethodId} {args : Array Value} {below : List Frame} {meth : Method} {c : Code} {D : va_G} {cI cZ cJ : ClassId} {ad : Nat → Nat} {rest w0 : va_W} (C : XC p rm_X2_timeAt s m args meth c cX2_timeAt 2 (some .int) RX2 wsX2_timeAt D (t3 cI cZ cJ)) {S : St} {x1 : Int32} {r : Int32} (h : X2_timeAt S x1 = some r) : XW p l e rm_X2_timeAt s m args below meth c D w0 2 (MQ below (QI D (t3 cI cZ cJ) w0 (wE cI cZ ad S rest) s.heap.size r) args s 0 0 (va_A w0 s.heap.size)) (wE cI cZ ad S rest) 0 0 0 [(0, .ref (ad 14)), (1, .int x1)] [] := by
  unfold X2_timeAt at h
  refine x_aload_n C 0 dX2_timeAt_0 rfl ?_
  refine x_get C (R' := RX2) (T := TX2) (N := 7) (ci := 2) 14 1 rfl rfl (by decide) rfl rfl hi_X2_timeAt_2 lk_X2_timeAt_15 dX2_timeAt_1 ?_
  refine x_iload_n C 1 dX2_timeAt_4 rfl ?_
  obtain ⟨v5, hg5, h⟩ := ob h
  refine x_ci0 (x_runSN C (As := [.ref (ad 16), .int x1]) (rest := []) (c_X5_at 16 rfl hg5) (cw_X2_timeAt_X5_at_38 C) rfl (Nat.le_of_ble_eq_true rfl) dX2_timeAt_5 ⟨Nat.zero_le _, Nat.zero_le _⟩) ?_
  refine x_iconst C (v := 2) dX2_timeAt_8 (by decide) ?_
  refine x_idiv C dX2_timeAt_9 (by decide) ?_
  obtain rfl := Option.some.inj h
  exact x_iret C dX2_timeAt_10
set_option maxRecDepth 100000 in
theorem c_X2_timeAt {l : Launch} {D : va_G} {cI cZ cJ : ClassId} {ad : Nat → Nat} {S : St} {rest : va_W} {x1 : Int32} {r : Int32} (h : X2_timeAt S x1 = some r) : ∀ sz, Met l yX2_timeAt wsX2_timeAt rm_X2_timeAt (PC D (t3 cI cZ cJ) [.ref (ad 14), .int x1] (wE cI cZ ad S rest) sz) (QI D (t3 cI cZ cJ) (wE cI cZ ad S rest) (wE cI cZ ad S rest) sz r) 0 0 (va_A (wE cI cZ ad S rest) sz) := by
  refine x_met (Qc := fun sz => QI D (t3 cI cZ cJ) (wE cI cZ ad S rest) (wE cI cZ ad S rest) sz r) RX2 rfl (by decide) rfl (Nat.le_of_ble_eq_true rfl) (fun p e s m args below meth c C => ?_)
  exact X_X2_timeAt C h
/-! EntryMasters$Marks.putRight(III)V -/
abbrev rm_X3_putRight : Room := { frames := 1, cells := 0, slots := 0, locals := 22 }
theorem hi_X3_putRight_3 : ∀ z ∈ u_ws RX3 TX3 2, z ∈ wsX3_putRight := by decide +kernel
theorem lk_X3_putRight_9 : Cond.fieldLink RX3 9 RX3 "rights" "[I" ∈ wsX3_putRight := by decide +kernel
theorem cw_X3_putRight_X5_put_25 {p : Program} {s : State} {m : MethodId} {args : Array Value} {meth : Method} {c : Code} {D : va_G} {tys : List (ClassId × FieldType)} {R : Room} (C : XC p R s m args meth c cX3_putRight 4 none RX3 wsX3_putRight D tys) : va_CN rm_X3_putRight s args RX3 25 yX5_put RX5 cX5_put 3 none wsX5_put rm_X5_put 0 0 3 ∧ (Cond.static yX5_put).before args s = true ∧ True := ⟨va_cnB 3 C.2.2.2.2.1 gX3_putRight_X5_put_n25 rfl rfl rfl (C.2.2.2.2.2.2.1.1 _ (nm_mem 7 rfl)) (C.2.2.2.2.1 (.initialized RX5) (by decide +kernel)) (by decide +kernel) ⟨Nat.le_of_ble_eq_true rfl, Nat.le_of_ble_eq_true rfl⟩, C.2.2.2.2.1 (.static yX5_put) (by decide +kernel), trivial⟩
def X3_putRight_b14 (S : St) : Option (St) :=
  some S
set_option maxHeartbeats 4000000 in
set_option maxRecDepth 100000 in
theorem X_X3_putRight_b14 {p : Program} {l : Launch} {e : Env} {s : State} {m : MethodId} {args : Array Value} {below : List Frame} {meth : Method} {c : Code} {D : va_G} {cI cZ cJ : ClassId} {ad : Nat → Nat} {rest w0 : va_W} (C : XC p rm_X3_putRight s m args meth c cX3_putRight 4 none RX3 wsX3_putRight D (t3 cI cZ cJ)) {S : St} {r : St} (h : X3_putRight_b14 S = some r) : XW p l e rm_X3_putRight s m args below meth c D w0 4 (MQ below (QV D (t3 cI cZ cJ) w0 (wE cI cZ ad r rest) s.heap.size) args s 0 0 (va_A w0 s.heap.size)) (wE cI cZ ad S rest) 0 0 14 [] [] := by
  unfold X3_putRight_b14 at h
  obtain rfl := Option.some.inj h
  exact x_vret C dX3_putRight_14
def X3_putRight (S : St) (x1 x2 x3 : Int32) : Option (St) :=
  (X5_put 126 (S 25) ((x1 * 42) + x2) x3).bind fun f11 => X3_putRight_b14 (up S 25 f11)
set_option maxHeartbeats 4000000 in
set_option maxRecDepth 100000 in
theorem X_X3_putRight {p : Program} {l : Launch} {e : Env} {s : State} {m : MethodId} {args : Array Value} {below : List Frame} {meth : Method} {c : Code} {D : va_G} {cI cZ cJ : ClassId} {ad : Nat → Nat} {rest w0 : va_W} (C : XC p rm_X3_putRight s m args meth c cX3_putRight 4 none RX3 wsX3_putRight D (t3 cI cZ cJ)) {S : St} {x1 x2 x3 : Int32} {r : St} (h : X3_putRight S x1 x2 x3 = some r) : XW p l e rm_X3_putRight s m args below meth c D w0 4 (MQ below (QV D (t3 cI cZ cJ) w0 (wE cI cZ ad r rest) s.heap.size) args s 0 0 (va_A w0 s.heap.size)) (wE cI cZ ad S rest) 0 0 0 [(0, .ref (ad 24)), (1, .int x1), (2, .int x2), (3, .int x3)] [] := by
  unfold X3_putRight at h
  refine x_aload_n C 0 dX3_putRight_0 rfl ?_
  refine x_get C (R' := RX3) (T := TX3) (N := 2) (ci := 3) 24 0 rfl rfl (by decide) rfl rfl hi_X3_putRight_3 lk_X3_putRight_9 dX3_putRight_1 ?_
  refine x_iload_n C 1 dX3_putRight_4 rfl ?_
  refine x_bipush C (v := 42) dX3_putRight_5 (by decide) ?_
  refine x_imul C dX3_putRight_7 ?_
  refine x_iload_n C 2 dX3_putRight_8 rfl ?_
  refine x_iadd C dX3_putRight_9 ?_
  refine x_iload_n C 3 dX3_putRight_10 rfl ?_
  obtain ⟨f11, hg11, h⟩ := ob h
  refine x_cv0 (x_runSN C (As := [.ref (ad 25), .int ((x1 * 42) + x2), .int x3]) (rest := []) (c_X5_put 25 rfl hg11) (cw_X3_putRight_X5_put_25 C) rfl (Nat.le_of_ble_eq_true rfl) dX3_putRight_11 ⟨Nat.zero_le _, Nat.zero_le _⟩) ?_
  refine x_eqw (wE_s25 cI cZ ad S rest f11) ?_
  refine x_locals (lv' := []) [] rfl ?_
  exact X_X3_putRight_b14 C h
set_option maxRecDepth 100000 in
theorem c_X3_putRight {l : Launch} {D : va_G} {cI cZ cJ : ClassId} {ad : Nat → Nat} {S : St} {rest : va_W} {x1 x2 x3 : Int32} {r : St} (h : X3_putRight S x1 x2 x3 = some r) : ∀ sz, Met l yX3_putRight wsX3_putRight rm_X3_putRight (PC D (t3 cI cZ cJ) [.ref (ad 24), .int x1, .int x2, .int x3] (wE cI cZ ad S rest) sz) (QV D (t3 cI cZ cJ) (wE cI cZ ad S rest) (wE cI cZ ad r rest) sz) 0 0 (va_A (wE cI cZ ad S rest) sz) := by
  refine x_met (Qc := fun sz => QV D (t3 cI cZ cJ) (wE cI cZ ad S rest) (wE cI cZ ad r rest) sz) RX3 rfl (by decide) rfl (Nat.le_of_ble_eq_true rfl) (fun p e s m args below meth c C => ?_)
  exact X_X3_putRight C h
/-! EntryMasters$Marks.putReferral(IZ)V -/
abbrev rm_X3_putReferral : Room := { frames := 0, cells := 0, slots := 0, locals := 0 }
theorem hi_X3_putReferral_3 : ∀ z ∈ u_ws RX3 TX3 2, z ∈ wsX3_putReferral := by decide +kernel
theorem lk_X3_putReferral_15 : Cond.fieldLink RX3 15 RX3 "referrals" "[Z" ∈ wsX3_putReferral := by decide +kernel
def X3_putReferral_b17 (S : St) : Option (St) :=
  some S
set_option maxHeartbeats 4000000 in
set_option maxRecDepth 100000 in
theorem X_X3_putReferral_b17 {p : Program} {l : Launch} {e : Env} {s : State} {m : MethodId} {args : Array Value} {below : List Frame} {meth : Method} {c : Code} {D : va_G} {cI cZ cJ : ClassId} {ad : Nat → Nat} {rest w0 : va_W} (C : XC p rm_X3_putReferral s m args meth c cX3_putReferral 3 none RX3 wsX3_putReferral D (t3 cI cZ cJ)) {S : St} {r : St} (h : X3_putReferral_b17 S = some r) : XW p l e rm_X3_putReferral s m args below meth c D w0 3 (MQ below (QV D (t3 cI cZ cJ) w0 (wE cI cZ ad r rest) s.heap.size) args s 0 0 (va_A w0 s.heap.size)) (wE cI cZ ad S rest) 0 0 17 [] [] := by
  unfold X3_putReferral_b17 at h
  obtain rfl := Option.some.inj h
  exact x_vret C dX3_putReferral_17
def X3_putReferral (S : St) (x1 x2 : Int32) : Option (St) :=
  if x1 < 0 then (X3_putReferral_b17 S) else (if 42 ≤ x1 then (X3_putReferral_b17 S) else (if inB x1 42 then (X3_putReferral_b17 (up S 26 (upd (S 26) x1.toNatClampNeg (vp_nar .boolean x2)))) else none))
set_option maxHeartbeats 4000000 in
set_option maxRecDepth 100000 in
theorem X_X3_putReferral {p : Program} {l : Launch} {e : Env} {s : State} {m : MethodId} {args : Array Value} {below : List Frame} {meth : Method} {c : Code} {D : va_G} {cI cZ cJ : ClassId} {ad : Nat → Nat} {rest w0 : va_W} (C : XC p rm_X3_putReferral s m args meth c cX3_putReferral 3 none RX3 wsX3_putReferral D (t3 cI cZ cJ)) {S : St} {x1 x2 : Int32} {r : St} (h : X3_putReferral S x1 x2 = some r) : XW p l e rm_X3_putReferral s m args below meth c D w0 3 (MQ below (QV D (t3 cI cZ cJ) w0 (wE cI cZ ad r rest) s.heap.size) args s 0 0 (va_A w0 s.heap.size)) (wE cI cZ ad S rest) 0 0 0 [(0, .ref (ad 24)), (1, .int x1), (2, .int x2)] [] := by
  unfold X3_putReferral at h
  refine x_iload_n C 1 dX3_putReferral_0 rfl ?_
  refine x_if_lt C (t := 17) dX3_putReferral_1 (by decide) (fun c1 => ?_) (fun c1 => ?_)
  · replace h := (if_pos c1).symm.trans h
    refine x_locals (lv' := []) [] rfl ?_
    exact X_X3_putReferral_b17 C h
  · replace h := (if_neg c1).symm.trans h
    refine x_iload_n C 1 dX3_putReferral_4 rfl ?_
    refine x_bipush C (v := 42) dX3_putReferral_5 (by decide) ?_
    refine x_icmp_ge C (t := 17) dX3_putReferral_7 (by decide) (fun c7 => ?_) (fun c7 => ?_)
    · replace h := (if_pos c7).symm.trans h
      refine x_locals (lv' := []) [] rfl ?_
      exact X_X3_putReferral_b17 C h
    · replace h := (if_neg c7).symm.trans h
      refine x_aload_n C 0 dX3_putReferral_10 rfl ?_
      refine x_get C (R' := RX3) (T := TX3) (N := 2) (ci := 3) 24 1 rfl rfl (by decide) rfl rfl hi_X3_putReferral_3 lk_X3_putReferral_15 dX3_putReferral_11 ?_
      refine x_iload_n C 1 dX3_putReferral_14 rfl ?_
      refine x_iload_n C 2 dX3_putReferral_15 rfl ?_
      obtain ⟨g16, h⟩ := gdB h
      refine x_zast C 26 rfl g16 dX3_putReferral_16 (wE_s26 cI cZ ad S rest (upd (S 26) x1.toNatClampNeg (vp_nar .boolean x2))) ?_
      refine x_locals (lv' := []) [] rfl ?_
      exact X_X3_putReferral_b17 C h
set_option maxRecDepth 100000 in
theorem c_X3_putReferral {l : Launch} {D : va_G} {cI cZ cJ : ClassId} {ad : Nat → Nat} {S : St} {rest : va_W} {x1 x2 : Int32} {r : St} (h : X3_putReferral S x1 x2 = some r) : ∀ sz, Met l yX3_putReferral wsX3_putReferral rm_X3_putReferral (PC D (t3 cI cZ cJ) [.ref (ad 24), .int x1, .int x2] (wE cI cZ ad S rest) sz) (QV D (t3 cI cZ cJ) (wE cI cZ ad S rest) (wE cI cZ ad r rest) sz) 0 0 (va_A (wE cI cZ ad S rest) sz) := by
  refine x_met (Qc := fun sz => QV D (t3 cI cZ cJ) (wE cI cZ ad S rest) (wE cI cZ ad r rest) sz) RX3 rfl (by decide) rfl (Nat.le_of_ble_eq_true rfl) (fun p e s m args below meth c C => ?_)
  exact X_X3_putReferral C h
/-! EntryMasters$Marks.isReferral(I)Z -/
abbrev rm_X3_isReferral : Room := { frames := 0, cells := 0, slots := 0, locals := 0 }
theorem hi_X3_isReferral_3 : ∀ z ∈ u_ws RX3 TX3 2, z ∈ wsX3_isReferral := by decide +kernel
theorem lk_X3_isReferral_15 : Cond.fieldLink RX3 15 RX3 "referrals" "[Z" ∈ wsX3_isReferral := by decide +kernel
def X3_isReferral_b24 (S : St) (s0 : Int32) : Option (Int32) :=
  if s0 &&& 1 = s0 then (some s0) else none
set_option maxHeartbeats 4000000 in
set_option maxRecDepth 100000 in
theorem X_X3_isReferral_b24 {p : Program} {l : Launch} {e : Env} {s : State} {m : MethodId} {args : Array Value} {below : List Frame} {meth : Method} {c : Code} {D : va_G} {cI cZ cJ : ClassId} {ad : Nat → Nat} {rest w0 : va_W} (C : XC p rm_X3_isReferral s m args meth c cX3_isReferral 2 (some .boolean) RX3 wsX3_isReferral D (t3 cI cZ cJ)) {S : St} {s0 : Int32} {r : Int32} (h : X3_isReferral_b24 S s0 = some r) : XW p l e rm_X3_isReferral s m args below meth c D w0 2 (MQ below (QI D (t3 cI cZ cJ) w0 (wE cI cZ ad S rest) s.heap.size r) args s 0 0 (va_A w0 s.heap.size)) (wE cI cZ ad S rest) 0 0 24 [] [.int s0] := by
  unfold X3_isReferral_b24 at h
  obtain ⟨g24, h⟩ := gd h
  obtain rfl := Option.some.inj h
  exact x_zret C g24 dX3_isReferral_24
def X3_isReferral_b23 (S : St) : Option (Int32) :=
  X3_isReferral_b24 S 0
set_option maxHeartbeats 4000000 in
set_option maxRecDepth 100000 in
theorem X_X3_isReferral_b23 {p : Program} {l : Launch} {e : Env} {s : State} {m : MethodId} {args : Array Value} {below : List Frame} {meth : Method} {c : Code} {D : va_G} {cI cZ cJ : ClassId} {ad : Nat → Nat} {rest w0 : va_W} (C : XC p rm_X3_isReferral s m args meth c cX3_isReferral 2 (some .boolean) RX3 wsX3_isReferral D (t3 cI cZ cJ)) {S : St} {r : Int32} (h : X3_isReferral_b23 S = some r) : XW p l e rm_X3_isReferral s m args below meth c D w0 2 (MQ below (QI D (t3 cI cZ cJ) w0 (wE cI cZ ad S rest) s.heap.size r) args s 0 0 (va_A w0 s.heap.size)) (wE cI cZ ad S rest) 0 0 23 [] [] := by
  unfold X3_isReferral_b23 at h
  refine x_iconst C (v := 0) dX3_isReferral_23 (by decide) ?_
  exact X_X3_isReferral_b24 C h
def X3_isReferral (S : St) (x1 : Int32) : Option (Int32) :=
  if x1 < 0 then (X3_isReferral_b23 S) else (if 42 ≤ x1 then (X3_isReferral_b23 S) else (if inB x1 42 then (if (S 26 x1.toNatClampNeg) = 0 then (X3_isReferral_b23 S) else (X3_isReferral_b24 S 1)) else none))
set_option maxHeartbeats 4000000 in
set_option maxRecDepth 100000 in
theorem X_X3_isReferral {p : Program} {l : Launch} {e : Env} {s : State} {m : MethodId} {args : Array Value} {below : List Frame} {meth : Method} {c : Code} {D : va_G} {cI cZ cJ : ClassId} {ad : Nat → Nat} {rest w0 : va_W} (C : XC p rm_X3_isReferral s m args meth c cX3_isReferral 2 (some .boolean) RX3 wsX3_isReferral D (t3 cI cZ cJ)) {S : St} {x1 : Int32} {r : Int32} (h : X3_isReferral S x1 = some r) : XW p l e rm_X3_isReferral s m args below meth c D w0 2 (MQ below (QI D (t3 cI cZ cJ) w0 (wE cI cZ ad S rest) s.heap.size r) args s 0 0 (va_A w0 s.heap.size)) (wE cI cZ ad S rest) 0 0 0 [(0, .ref (ad 24)), (1, .int x1)] [] := by
  unfold X3_isReferral at h
  refine x_iload_n C 1 dX3_isReferral_0 rfl ?_
  refine x_if_lt C (t := 23) dX3_isReferral_1 (by decide) (fun c1 => ?_) (fun c1 => ?_)
  · replace h := (if_pos c1).symm.trans h
    refine x_locals (lv' := []) [] rfl ?_
    exact X_X3_isReferral_b23 C h
  · replace h := (if_neg c1).symm.trans h
    refine x_iload_n C 1 dX3_isReferral_4 rfl ?_
    refine x_bipush C (v := 42) dX3_isReferral_5 (by decide) ?_
    refine x_icmp_ge C (t := 23) dX3_isReferral_7 (by decide) (fun c7 => ?_) (fun c7 => ?_)
    · replace h := (if_pos c7).symm.trans h
      refine x_locals (lv' := []) [] rfl ?_
      exact X_X3_isReferral_b23 C h
    · replace h := (if_neg c7).symm.trans h
      refine x_aload_n C 0 dX3_isReferral_10 rfl ?_
      refine x_get C (R' := RX3) (T := TX3) (N := 2) (ci := 3) 24 1 rfl rfl (by decide) rfl rfl hi_X3_isReferral_3 lk_X3_isReferral_15 dX3_isReferral_11 ?_
      refine x_iload_n C 1 dX3_isReferral_14 rfl ?_
      obtain ⟨g15, h⟩ := gdB h
      refine x_zald C 26 rfl g15 dX3_isReferral_15 ?_
      refine x_if_eq C (t := 23) dX3_isReferral_16 (by decide) (fun c16 => ?_) (fun c16 => ?_)
      · replace h := (if_pos c16).symm.trans h
        refine x_locals (lv' := []) [] rfl ?_
        exact X_X3_isReferral_b23 C h
      · replace h := (if_neg c16).symm.trans h
        refine x_iconst C (v := 1) dX3_isReferral_19 (by decide) ?_
        refine x_goto C (t := 24) dX3_isReferral_20 (by decide) ?_
        refine x_locals (lv' := []) [] rfl ?_
        exact X_X3_isReferral_b24 C h
set_option maxRecDepth 100000 in
theorem c_X3_isReferral {l : Launch} {D : va_G} {cI cZ cJ : ClassId} {ad : Nat → Nat} {S : St} {rest : va_W} {x1 : Int32} {r : Int32} (h : X3_isReferral S x1 = some r) : ∀ sz, Met l yX3_isReferral wsX3_isReferral rm_X3_isReferral (PC D (t3 cI cZ cJ) [.ref (ad 24), .int x1] (wE cI cZ ad S rest) sz) (QI D (t3 cI cZ cJ) (wE cI cZ ad S rest) (wE cI cZ ad S rest) sz r) 0 0 (va_A (wE cI cZ ad S rest) sz) := by
  refine x_met (Qc := fun sz => QI D (t3 cI cZ cJ) (wE cI cZ ad S rest) (wE cI cZ ad S rest) sz r) RX3 rfl (by decide) rfl (Nat.le_of_ble_eq_true rfl) (fun p e s m args below meth c C => ?_)
  exact X_X3_isReferral C h
/-! EntryMasters$Tree.parentAt(I)I -/
abbrev rm_X4_parentAt : Room := { frames := 1, cells := 0, slots := 0, locals := 21 }
theorem hi_X4_parentAt_4 : ∀ z ∈ u_ws RX4 TX4 11, z ∈ wsX4_parentAt := by decide +kernel
theorem lk_X4_parentAt_19 : Cond.fieldLink RX4 19 RX4 "parents" "[I" ∈ wsX4_parentAt := by decide +kernel
theorem cw_X4_parentAt_X5_at_58 {p : Program} {s : State} {m : MethodId} {args : Array Value} {meth : Method} {c : Code} {D : va_G} {tys : List (ClassId × FieldType)} {R : Room} (C : XC p R s m args meth c cX4_parentAt 2 (some .int) RX4 wsX4_parentAt D tys) : va_CN rm_X4_parentAt s args RX4 58 yX5_at RX5 cX5_at 2 (some .int) wsX5_at rm_X5_at 0 0 2 ∧ (Cond.static yX5_at).before args s = true ∧ True := ⟨va_cnB 2 C.2.2.2.2.1 gX4_parentAt_X5_at_n58 rfl rfl rfl (C.2.2.2.2.2.2.1.1 _ (nm_mem 9 rfl)) (C.2.2.2.2.1 (.initialized RX5) (by decide +kernel)) (by decide +kernel) ⟨Nat.le_of_ble_eq_true rfl, Nat.le_of_ble_eq_true rfl⟩, C.2.2.2.2.1 (.static yX5_at) (by decide +kernel), trivial⟩
def X4_parentAt (S : St) (x1 : Int32) : Option (Int32) :=
  (X5_at 42 (S 3) x1).bind fun v5 => some v5
set_option maxHeartbeats 4000000 in
set_option maxRecDepth 100000 in
theorem X_X4_parentAt {p : Program} {l : Launch} {e : Env} {s : State} {m : MethodId} {args : Array Value} {below : List Frame} {meth : Method} {c : Code} {D : va_G} {cI cZ cJ : ClassId} {ad : Nat → Nat} {rest w0 : va_W} (C : XC p rm_X4_parentAt s m args meth c cX4_parentAt 2 (some .int) RX4 wsX4_parentAt D (t3 cI cZ cJ)) {S : St} {x1 : Int32} {r : Int32} (h : X4_parentAt S x1 = some r) : XW p l e rm_X4_parentAt s m args below meth c D w0 2 (MQ below (QI D (t3 cI cZ cJ) w0 (wE cI cZ ad S rest) s.heap.size r) args s 0 0 (va_A w0 s.heap.size)) (wE cI cZ ad S rest) 0 0 0 [(0, .ref (ad 0)), (1, .int x1)] [] := by
  unfold X4_parentAt at h
  refine x_aload_n C 0 dX4_parentAt_0 rfl ?_
  refine x_get C (R' := RX4) (T := TX4) (N := 11) (ci := 4) 0 6 rfl rfl (by decide) rfl rfl hi_X4_parentAt_4 lk_X4_parentAt_19 dX4_parentAt_1 ?_
  refine x_iload_n C 1 dX4_parentAt_4 rfl ?_
  obtain ⟨v5, hg5, h⟩ := ob h
  refine x_ci0 (x_runSN C (As := [.ref (ad 3), .int x1]) (rest := []) (c_X5_at 3 rfl hg5) (cw_X4_parentAt_X5_at_58 C) rfl (Nat.le_of_ble_eq_true rfl) dX4_parentAt_5 ⟨Nat.zero_le _, Nat.zero_le _⟩) ?_
  obtain rfl := Option.some.inj h
  exact x_iret C dX4_parentAt_8
set_option maxRecDepth 100000 in
theorem c_X4_parentAt {l : Launch} {D : va_G} {cI cZ cJ : ClassId} {ad : Nat → Nat} {S : St} {rest : va_W} {x1 : Int32} {r : Int32} (h : X4_parentAt S x1 = some r) : ∀ sz, Met l yX4_parentAt wsX4_parentAt rm_X4_parentAt (PC D (t3 cI cZ cJ) [.ref (ad 0), .int x1] (wE cI cZ ad S rest) sz) (QI D (t3 cI cZ cJ) (wE cI cZ ad S rest) (wE cI cZ ad S rest) sz r) 0 0 (va_A (wE cI cZ ad S rest) sz) := by
  refine x_met (Qc := fun sz => QI D (t3 cI cZ cJ) (wE cI cZ ad S rest) (wE cI cZ ad S rest) sz r) RX4 rfl (by decide) rfl (Nat.le_of_ble_eq_true rfl) (fun p e s m args below meth c C => ?_)
  exact X_X4_parentAt C h
/-! EntryMasters$Marks.rightThatCounts(ILEntryMasters$Tree;I)I -/
abbrev rm_X3_rightThatCounts : Room := { frames := 2, cells := 0, slots := 0, locals := 42 }
theorem hi_X3_rightThatCounts_3 : ∀ z ∈ u_ws RX3 TX3 2, z ∈ wsX3_rightThatCounts := by decide +kernel
theorem lk_X3_rightThatCounts_9 : Cond.fieldLink RX3 9 RX3 "rights" "[I" ∈ wsX3_rightThatCounts := by decide +kernel
theorem cw_X3_rightThatCounts_X4_parentAt_33 {p : Program} {s : State} {m : MethodId} {args : Array Value} {meth : Method} {c : Code} {D : va_G} {tys : List (ClassId × FieldType)} {R : Room} (C : XC p R s m args meth c cX3_rightThatCounts 7 (some .int) RX3 wsX3_rightThatCounts D tys) : CallW rm_X3_rightThatCounts s args RX3 RX4 33 yX4_parentAt cX4_parentAt 2 (some .int) wsX4_parentAt rm_X4_parentAt 0 0 1 := cwV 1 C.2.2.2.2.1 gX3_rightThatCounts_X4_parentAt rfl rfl rfl (by decide +kernel) ⟨Nat.le_of_ble_eq_true rfl, Nat.le_of_ble_eq_true rfl⟩
theorem cw_X3_rightThatCounts_X5_at_29 {p : Program} {s : State} {m : MethodId} {args : Array Value} {meth : Method} {c : Code} {D : va_G} {tys : List (ClassId × FieldType)} {R : Room} (C : XC p R s m args meth c cX3_rightThatCounts 7 (some .int) RX3 wsX3_rightThatCounts D tys) : va_CN rm_X3_rightThatCounts s args RX3 29 yX5_at RX5 cX5_at 2 (some .int) wsX5_at rm_X5_at 0 0 2 ∧ (Cond.static yX5_at).before args s = true ∧ True := ⟨va_cnB 2 C.2.2.2.2.1 gX3_rightThatCounts_X5_at_n29 rfl rfl rfl (C.2.2.2.2.2.2.1.1 _ (nm_mem 8 rfl)) (C.2.2.2.2.1 (.initialized RX5) (by decide +kernel)) (by decide +kernel) ⟨Nat.le_of_ble_eq_true rfl, Nat.le_of_ble_eq_true rfl⟩, C.2.2.2.2.1 (.static yX5_at) (by decide +kernel), trivial⟩
def X3_rightThatCounts_b58 (S : St) : Option (Int32) :=
  some 0
set_option maxHeartbeats 4000000 in
set_option maxRecDepth 100000 in
theorem X_X3_rightThatCounts_b58 {p : Program} {l : Launch} {e : Env} {s : State} {m : MethodId} {args : Array Value} {below : List Frame} {meth : Method} {c : Code} {D : va_G} {cI cZ cJ : ClassId} {ad : Nat → Nat} {rest w0 : va_W} (C : XC p rm_X3_rightThatCounts s m args meth c cX3_rightThatCounts 7 (some .int) RX3 wsX3_rightThatCounts D (t3 cI cZ cJ)) {S : St} {r : Int32} (h : X3_rightThatCounts_b58 S = some r) : XW p l e rm_X3_rightThatCounts s m args below meth c D w0 7 (MQ below (QI D (t3 cI cZ cJ) w0 (wE cI cZ ad S rest) s.heap.size r) args s 0 0 (va_A w0 s.heap.size)) (wE cI cZ ad S rest) 0 0 58 [] [] := by
  unfold X3_rightThatCounts_b58 at h
  refine x_iconst C (v := 0) dX3_rightThatCounts_58 (by decide) ?_
  obtain rfl := Option.some.inj h
  exact x_iret C dX3_rightThatCounts_59
def X3_rightThatCounts_b41 (S : St) (x6 : Int32) : Option (Int32) :=
  some x6
set_option maxHeartbeats 4000000 in
set_option maxRecDepth 100000 in
theorem X_X3_rightThatCounts_b41 {p : Program} {l : Launch} {e : Env} {s : State} {m : MethodId} {args : Array Value} {below : List Frame} {meth : Method} {c : Code} {D : va_G} {cI cZ cJ : ClassId} {ad : Nat → Nat} {rest w0 : va_W} (C : XC p rm_X3_rightThatCounts s m args meth c cX3_rightThatCounts 7 (some .int) RX3 wsX3_rightThatCounts D (t3 cI cZ cJ)) {S : St} {x6 : Int32} {r : Int32} (h : X3_rightThatCounts_b41 S x6 = some r) : XW p l e rm_X3_rightThatCounts s m args below meth c D w0 7 (MQ below (QI D (t3 cI cZ cJ) w0 (wE cI cZ ad S rest) s.heap.size r) args s 0 0 (va_A w0 s.heap.size)) (wE cI cZ ad S rest) 0 0 41 [(6, .int x6)] [] := by
  unfold X3_rightThatCounts_b41 at h
  refine x_iload C 0 dX3_rightThatCounts_41 rfl ?_
  obtain rfl := Option.some.inj h
  exact x_iret C dX3_rightThatCounts_43
def X3_rightThatCounts_H6 (S : St) (x1 x4 x5 : Int32) : Option ((Int32 × Int32 × Int32) ⊕ (Int32)) :=
  if 42 ≤ x5 then (exI (X3_rightThatCounts_b58 S)) else (if x4 = (-1) then (exI (X3_rightThatCounts_b58 S)) else ((X5_at 126 (S 25) ((x1 * 42) + x4)).bind fun v30 => if v30 = (-1) then ((X4_parentAt S x4).bind fun v47 => some (.inl (x1, v47, x5 + 1))) else (exI (X3_rightThatCounts_b41 S v30))))
set_option maxHeartbeats 4000000 in
set_option maxRecDepth 100000 in
theorem X_X3_rightThatCounts_H6 {p : Program} {l : Launch} {e : Env} {s : State} {m : MethodId} {args : Array Value} {below : List Frame} {meth : Method} {c : Code} {D : va_G} {cI cZ cJ : ClassId} {ad : Nat → Nat} {rest w0 : va_W} (C : XC p rm_X3_rightThatCounts s m args meth c cX3_rightThatCounts 7 (some .int) RX3 wsX3_rightThatCounts D (t3 cI cZ cJ)) {S : St} {x1 x4 x5 : Int32} {z : (Int32 × Int32 × Int32) ⊕ (Int32)} {r : Int32} (h : X3_rightThatCounts_H6 S x1 x4 x5 = some z) (hk : ∀ a' : (Int32 × Int32 × Int32), z = .inl a' → XW p l e rm_X3_rightThatCounts s m args below meth c D w0 7 (MQ below (QI D (t3 cI cZ cJ) w0 (wE cI cZ ad S rest) s.heap.size r) args s 0 0 (va_A w0 s.heap.size)) (wE cI cZ ad S rest) 0 0 6 [(0, .ref (ad 24)), (1, .int a'.1), (2, .ref (ad 0)), (4, .int a'.2.1), (5, .int a'.2.2)] []) (hr : ∀ r', z = .inr r' → r' = r) : XW p l e rm_X3_rightThatCounts s m args below meth c D w0 7 (MQ below (QI D (t3 cI cZ cJ) w0 (wE cI cZ ad S rest) s.heap.size r) args s 0 0 (va_A w0 s.heap.size)) (wE cI cZ ad S rest) 0 0 6 [(0, .ref (ad 24)), (1, .int x1), (2, .ref (ad 0)), (4, .int x4), (5, .int x5)] [] := by
  unfold X3_rightThatCounts_H6 at h
  refine x_iload C 4 dX3_rightThatCounts_6 rfl ?_
  refine x_bipush C (v := 42) dX3_rightThatCounts_8 (by decide) ?_
  refine x_icmp_ge C (t := 58) dX3_rightThatCounts_10 (by decide) (fun c10 => ?_) (fun c10 => ?_)
  · replace h := (if_pos c10).symm.trans h
    refine x_locals (lv' := []) [] rfl ?_
    obtain ⟨r1, h1, h2⟩ := exI_some h
    obtain rfl := hr r1 h2
    exact X_X3_rightThatCounts_b58 C h1
  · replace h := (if_neg c10).symm.trans h
    refine x_iload C 3 dX3_rightThatCounts_13 rfl ?_
    refine x_iconst C (v := (-1)) dX3_rightThatCounts_15 (by decide) ?_
    refine x_icmp_eq C (t := 58) dX3_rightThatCounts_16 (by decide) (fun c16 => ?_) (fun c16 => ?_)
    · replace h := (if_pos c16).symm.trans h
      refine x_locals (lv' := []) [] rfl ?_
      obtain ⟨r1, h1, h2⟩ := exI_some h
      obtain rfl := hr r1 h2
      exact X_X3_rightThatCounts_b58 C h1
    · replace h := (if_neg c16).symm.trans h
      refine x_aload_n C 0 dX3_rightThatCounts_19 rfl ?_
      refine x_get C (R' := RX3) (T := TX3) (N := 2) (ci := 3) 24 0 rfl rfl (by decide) rfl rfl hi_X3_rightThatCounts_3 lk_X3_rightThatCounts_9 dX3_rightThatCounts_20 ?_
      refine x_iload_n C 1 dX3_rightThatCounts_23 rfl ?_
      refine x_bipush C (v := 42) dX3_rightThatCounts_24 (by decide) ?_
      refine x_imul C dX3_rightThatCounts_26 ?_
      refine x_iload C 3 dX3_rightThatCounts_27 rfl ?_
      refine x_iadd C dX3_rightThatCounts_29 ?_
      obtain ⟨v30, hg30, h⟩ := ob h
      refine x_ci0 (x_runSN C (As := [.ref (ad 25), .int ((x1 * 42) + x4)]) (rest := []) (c_X5_at 25 rfl hg30) (cw_X3_rightThatCounts_X5_at_29 C) rfl (Nat.le_of_ble_eq_true rfl) dX3_rightThatCounts_30 ⟨Nat.zero_le _, Nat.zero_le _⟩) ?_
      refine x_istore C (lv' := [(0, .ref (ad 24)), (1, .int x1), (2, .ref (ad 0)), (4, .int x4), (5, .int x5), (6, .int v30)]) dX3_rightThatCounts_33 (by decide) rfl ?_
      refine x_iload C 5 dX3_rightThatCounts_35 rfl ?_
      refine x_iconst C (v := (-1)) dX3_rightThatCounts_37 (by decide) ?_
      refine x_icmp_eq C (t := 44) dX3_rightThatCounts_38 (by decide) (fun c38 => ?_) (fun c38 => ?_)
      · replace h := (if_pos c38).symm.trans h
        refine x_aload_n C 2 dX3_rightThatCounts_44 rfl ?_
        refine x_iload C 3 dX3_rightThatCounts_45 rfl ?_
        obtain ⟨v47, hg47, h⟩ := ob h
        refine x_ci0 (x_runV C (As := [.int x4]) (rest := []) (c_X4_parentAt hg47) (cw_X3_rightThatCounts_X4_parentAt_33 C) 0 rfl rfl rfl (Nat.le_of_ble_eq_true rfl) dX3_rightThatCounts_47 ⟨Nat.zero_le _, Nat.zero_le _⟩) ?_
        refine x_istore C (lv' := [(0, .ref (ad 24)), (1, .int x1), (2, .ref (ad 0)), (4, .int v47), (5, .int x5), (6, .int v30)]) dX3_rightThatCounts_50 (by decide) rfl ?_
        refine x_iinc C (v := x5 + 1) (lv' := [(0, .ref (ad 24)), (1, .int x1), (2, .ref (ad 0)), (4, .int v47), (5, .int (x5 + 1)), (6, .int v30)]) 4 dX3_rightThatCounts_52 rfl rfl (by decide) rfl ?_
        refine x_goto C (t := 6) dX3_rightThatCounts_55 (by decide) ?_
        refine x_locals (lv' := [(0, .ref (ad 24)), (1, .int x1), (2, .ref (ad 0)), (4, .int v47), (5, .int (x5 + 1))]) [0, 1, 2, 3, 4] rfl ?_
        exact hk _ (Option.some.inj h).symm
      · replace h := (if_neg c38).symm.trans h
        refine x_locals (lv' := [(6, .int v30)]) [5] rfl ?_
        obtain ⟨r1, h1, h2⟩ := exI_some h
        obtain rfl := hr r1 h2
        exact X_X3_rightThatCounts_b41 C h1
def X3_rightThatCounts_L6 (S : St) (x1 x4 x5 : Int32) : Option (Int32) := wloop (fun a' : (Int32 × Int32 × Int32) => X3_rightThatCounts_H6 S a'.1 a'.2.1 a'.2.2) 1000 (x1, x4, x5)
set_option maxHeartbeats 4000000 in
set_option maxRecDepth 100000 in
theorem X_X3_rightThatCounts_L6 {p : Program} {l : Launch} {e : Env} {s : State} {m : MethodId} {args : Array Value} {below : List Frame} {meth : Method} {c : Code} {D : va_G} {cI cZ cJ : ClassId} {ad : Nat → Nat} {rest w0 : va_W} (C : XC p rm_X3_rightThatCounts s m args meth c cX3_rightThatCounts 7 (some .int) RX3 wsX3_rightThatCounts D (t3 cI cZ cJ)) {S : St} {x1 x4 x5 : Int32} {r : Int32} (h : X3_rightThatCounts_L6 S x1 x4 x5 = some r) : XW p l e rm_X3_rightThatCounts s m args below meth c D w0 7 (MQ below (QI D (t3 cI cZ cJ) w0 (wE cI cZ ad S rest) s.heap.size r) args s 0 0 (va_A w0 s.heap.size)) (wE cI cZ ad S rest) 0 0 6 [(0, .ref (ad 24)), (1, .int x1), (2, .ref (ad 0)), (4, .int x4), (5, .int x5)] [] :=
  wloop_met (P := (fun a' : (Int32 × Int32 × Int32) => XW p l e rm_X3_rightThatCounts s m args below meth c D w0 7 (MQ below (QI D (t3 cI cZ cJ) w0 (wE cI cZ ad S rest) s.heap.size r) args s 0 0 (va_A w0 s.heap.size)) (wE cI cZ ad S rest) 0 0 6 [(0, .ref (ad 24)), (1, .int a'.1), (2, .ref (ad 0)), (4, .int a'.2.1), (5, .int a'.2.2)] [])) (fun _ _ hz hk hr => X_X3_rightThatCounts_H6 C hz hk hr) 1000 (x1, x4, x5) h
def X3_rightThatCounts (S : St) (x1 x3 : Int32) : Option (Int32) :=
  X3_rightThatCounts_L6 S x1 x3 0
set_option maxHeartbeats 4000000 in
set_option maxRecDepth 100000 in
theorem X_X3_rightThatCounts {p : Program} {l : Launch} {e : Env} {s : State} {m : MethodId} {args : Array Value} {below : List Frame} {meth : Method} {c : Code} {D : va_G} {cI cZ cJ : ClassId} {ad : Nat → Nat} {rest w0 : va_W} (C : XC p rm_X3_rightThatCounts s m args meth c cX3_rightThatCounts 7 (some .int) RX3 wsX3_rightThatCounts D (t3 cI cZ cJ)) {S : St} {x1 x3 : Int32} {r : Int32} (h : X3_rightThatCounts S x1 x3 = some r) : XW p l e rm_X3_rightThatCounts s m args below meth c D w0 7 (MQ below (QI D (t3 cI cZ cJ) w0 (wE cI cZ ad S rest) s.heap.size r) args s 0 0 (va_A w0 s.heap.size)) (wE cI cZ ad S rest) 0 0 0 [(0, .ref (ad 24)), (1, .int x1), (2, .ref (ad 0)), (3, .int x3)] [] := by
  unfold X3_rightThatCounts at h
  refine x_iload_n C 3 dX3_rightThatCounts_0 rfl ?_
  refine x_istore C (lv' := [(0, .ref (ad 24)), (1, .int x1), (2, .ref (ad 0)), (3, .int x3), (4, .int x3)]) dX3_rightThatCounts_1 (by decide) rfl ?_
  refine x_iconst C (v := 0) dX3_rightThatCounts_3 (by decide) ?_
  refine x_istore C (lv' := [(0, .ref (ad 24)), (1, .int x1), (2, .ref (ad 0)), (3, .int x3), (4, .int x3), (5, .int 0)]) dX3_rightThatCounts_4 (by decide) rfl ?_
  refine x_locals (lv' := [(0, .ref (ad 24)), (1, .int x1), (2, .ref (ad 0)), (4, .int x3), (5, .int 0)]) [0, 1, 2, 4, 5] rfl ?_
  exact X_X3_rightThatCounts_L6 C h
set_option maxRecDepth 100000 in
theorem c_X3_rightThatCounts {l : Launch} {D : va_G} {cI cZ cJ : ClassId} {ad : Nat → Nat} {S : St} {rest : va_W} {x1 x3 : Int32} {r : Int32} (h : X3_rightThatCounts S x1 x3 = some r) : ∀ sz, Met l yX3_rightThatCounts wsX3_rightThatCounts rm_X3_rightThatCounts (PC D (t3 cI cZ cJ) [.ref (ad 24), .int x1, .ref (ad 0), .int x3] (wE cI cZ ad S rest) sz) (QI D (t3 cI cZ cJ) (wE cI cZ ad S rest) (wE cI cZ ad S rest) sz r) 0 0 (va_A (wE cI cZ ad S rest) sz) := by
  refine x_met (Qc := fun sz => QI D (t3 cI cZ cJ) (wE cI cZ ad S rest) (wE cI cZ ad S rest) sz r) RX3 rfl (by decide) rfl (Nat.le_of_ble_eq_true rfl) (fun p e s m args below meth c C => ?_)
  exact X_X3_rightThatCounts C h
