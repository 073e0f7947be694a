/-! java/util/Arrays.fill([II)V -/
abbrev rm_J7_fill_53178 : Room := { frames := 0, cells := 0, slots := 0, locals := 0 }
def J7_fill_53178_b20 (N : Nat) (f : Nat → Int32) : Option ((Nat → Int32)) :=
  some f
set_option maxHeartbeats 4000000 in
set_option maxRecDepth 100000 in
theorem X_J7_fill_53178_b20 {p : Program} {l : Launch} {e : Env} {s : State} {m : MethodId} {args : Array Value} {below : List Frame} {meth : Method} {c : Code} {D : va_G} {cI cZ cJ : ClassId} {w w0 : va_W} {q0 a N : Nat} (C : XC p rm_J7_fill_53178 s m args meth c cJ7_fill_53178 4 none RJ7 wsJ7_fill_53178 D (t3 cI cZ cJ)) {f : Nat → Int32} {r : (Nat → Int32)} (hq : q0 < w.length) (h : J7_fill_53178_b20 N f = some r) : XW p l e rm_J7_fill_53178 s m args below meth c D w0 4 (MQ below (QV D (t3 cI cZ cJ) w0 (w.set q0 (a, .inl (cI, N, .inl r))) s.heap.size) args s 0 0 (va_A w0 s.heap.size)) (w.set q0 (a, .inl (cI, N, .inl f))) 0 0 20 [] [] := by
  unfold J7_fill_53178_b20 at h
  obtain rfl := Option.some.inj h
  exact x_vret C dJ7_fill_53178_20
def J7_fill_53178_b14 (N : Nat) (f : Nat → Int32) (x1 x2 x3 : Int32) : Option (((Nat → Int32) × Int32 × Int32 × Int32) ⊕ ((Nat → Int32))) :=
  some (.inl (f, x1, x2 + 1, x3))
set_option maxHeartbeats 4000000 in
set_option maxRecDepth 100000 in
theorem X_J7_fill_53178_b14 {p : Program} {l : Launch} {e : Env} {s : State} {m : MethodId} {args : Array Value} {below : List Frame} {meth : Method} {c : Code} {D : va_G} {cI cZ cJ : ClassId} {w w0 : va_W} {q0 a N : Nat} (C : XC p rm_J7_fill_53178 s m args meth c cJ7_fill_53178 4 none RJ7 wsJ7_fill_53178 D (t3 cI cZ cJ)) {f : Nat → Int32} {x1 x2 x3 : Int32} {z : ((Nat → Int32) × Int32 × Int32 × Int32) ⊕ ((Nat → Int32))} {r : (Nat → Int32)} (hq : q0 < w.length) (h : J7_fill_53178_b14 N f x1 x2 x3 = some z) (hk : ∀ a' : ((Nat → Int32) × Int32 × Int32 × Int32), z = .inl a' → XW p l e rm_J7_fill_53178 s m args below meth c D w0 4 (MQ below (QV D (t3 cI cZ cJ) w0 (w.set q0 (a, .inl (cI, N, .inl r))) s.heap.size) args s 0 0 (va_A w0 s.heap.size)) (w.set q0 (a, .inl (cI, N, .inl a'.1))) 0 0 5 [(0, .ref a), (1, .int a'.2.1), (2, .int a'.2.2.1), (3, .int a'.2.2.2)] []) (hr : ∀ r', z = .inr r' → r' = r) : XW p l e rm_J7_fill_53178 s m args below meth c D w0 4 (MQ below (QV D (t3 cI cZ cJ) w0 (w.set q0 (a, .inl (cI, N, .inl r))) s.heap.size) args s 0 0 (va_A w0 s.heap.size)) (w.set q0 (a, .inl (cI, N, .inl f))) 0 0 14 [(0, .ref a), (1, .int x1), (2, .int x2), (3, .int x3)] [] := by
  unfold J7_fill_53178_b14 at h
  refine x_iinc C (v := x2 + 1) (lv' := [(0, .ref a), (1, .int x1), (2, .int (x2 + 1)), (3, .int x3)]) 2 dJ7_fill_53178_14 rfl rfl (by decide) rfl ?_
  refine x_goto C (t := 5) dJ7_fill_53178_17 (by decide) ?_
  exact hk _ (Option.some.inj h).symm
def J7_fill_53178_H5 (N : Nat) (f : Nat → Int32) (x1 x2 x3 : Int32) : Option (((Nat → Int32) × Int32 × Int32 × Int32) ⊕ ((Nat → Int32))) :=
  if x3 ≤ x2 then (exI (J7_fill_53178_b20 N f)) else (if inB x2 N then (J7_fill_53178_b14 N (upd f x2.toNatClampNeg x1) x1 x2 x3) else none)
set_option maxHeartbeats 4000000 in
set_option maxRecDepth 100000 in
theorem X_J7_fill_53178_H5 {p : Program} {l : Launch} {e : Env} {s : State} {m : MethodId} {args : Array Value} {below : List Frame} {meth : Method} {c : Code} {D : va_G} {cI cZ cJ : ClassId} {w w0 : va_W} {q0 a N : Nat} (C : XC p rm_J7_fill_53178 s m args meth c cJ7_fill_53178 4 none RJ7 wsJ7_fill_53178 D (t3 cI cZ cJ)) {f : Nat → Int32} {x1 x2 x3 : Int32} {z : ((Nat → Int32) × Int32 × Int32 × Int32) ⊕ ((Nat → Int32))} {r : (Nat → Int32)} (hq : q0 < w.length) (h : J7_fill_53178_H5 N f x1 x2 x3 = some z) (hk : ∀ a' : ((Nat → Int32) × Int32 × Int32 × Int32), z = .inl a' → XW p l e rm_J7_fill_53178 s m args below meth c D w0 4 (MQ below (QV D (t3 cI cZ cJ) w0 (w.set q0 (a, .inl (cI, N, .inl r))) s.heap.size) args s 0 0 (va_A w0 s.heap.size)) (w.set q0 (a, .inl (cI, N, .inl a'.1))) 0 0 5 [(0, .ref a), (1, .int a'.2.1), (2, .int a'.2.2.1), (3, .int a'.2.2.2)] []) (hr : ∀ r', z = .inr r' → r' = r) : XW p l e rm_J7_fill_53178 s m args below meth c D w0 4 (MQ below (QV D (t3 cI cZ cJ) w0 (w.set q0 (a, .inl (cI, N, .inl r))) s.heap.size) args s 0 0 (va_A w0 s.heap.size)) (w.set q0 (a, .inl (cI, N, .inl f))) 0 0 5 [(0, .ref a), (1, .int x1), (2, .int x2), (3, .int x3)] [] := by
  unfold J7_fill_53178_H5 at h
  refine x_iload_n C 2 dJ7_fill_53178_5 rfl ?_
  refine x_iload_n C 3 dJ7_fill_53178_6 rfl ?_
  refine x_icmp_ge C (t := 20) dJ7_fill_53178_7 (by decide) (fun c7 => ?_) (fun c7 => ?_)
  · replace h := (if_pos c7).symm.trans h
    refine x_locals (lv' := []) [] rfl ?_
    obtain ⟨r1, h1, h2⟩ := exI_some h
    obtain rfl := hr r1 h2
    exact X_J7_fill_53178_b20 C hq h1
  · replace h := (if_neg c7).symm.trans h
    refine x_aload_n C 0 dJ7_fill_53178_10 rfl ?_
    refine x_iload_n C 2 dJ7_fill_53178_11 rfl ?_
    refine x_iload_n C 1 dJ7_fill_53178_12 rfl ?_
    obtain ⟨g13, h⟩ := gdB h
    refine x_iast C q0 (set_at hq) g13 dJ7_fill_53178_13 set_two ?_
    exact X_J7_fill_53178_b14 C hq h hk hr
def J7_fill_53178_L5 (N : Nat) (f : Nat → Int32) (x1 x2 x3 : Int32) : Option ((Nat → Int32)) := wloop (fun a' : ((Nat → Int32) × Int32 × Int32 × Int32) => J7_fill_53178_H5 N a'.1 a'.2.1 a'.2.2.1 a'.2.2.2) 1000 (f, x1, x2, x3)
set_option maxHeartbeats 4000000 in
set_option maxRecDepth 100000 in
theorem X_J7_fill_53178_L5 {p : Program} {l : Launch} {e : Env} {s : State} {m : MethodId} {args : Array Value} {below : List Frame} {meth : Method} {c : Code} {D : va_G} {cI cZ cJ : ClassId} {w w0 : va_W} {q0 a N : Nat} (C : XC p rm_J7_fill_53178 s m args meth c cJ7_fill_53178 4 none RJ7 wsJ7_fill_53178 D (t3 cI cZ cJ)) {f : Nat → Int32} {x1 x2 x3 : Int32} {r : (Nat → Int32)} (hq : q0 < w.length) (h : J7_fill_53178_L5 N f x1 x2 x3 = some r) : XW p l e rm_J7_fill_53178 s m args below meth c D w0 4 (MQ below (QV D (t3 cI cZ cJ) w0 (w.set q0 (a, .inl (cI, N, .inl r))) s.heap.size) args s 0 0 (va_A w0 s.heap.size)) (w.set q0 (a, .inl (cI, N, .inl f))) 0 0 5 [(0, .ref a), (1, .int x1), (2, .int x2), (3, .int x3)] [] :=
  wloop_met (P := (fun a' : ((Nat → Int32) × Int32 × Int32 × Int32) => XW p l e rm_J7_fill_53178 s m args below meth c D w0 4 (MQ below (QV D (t3 cI cZ cJ) w0 (w.set q0 (a, .inl (cI, N, .inl r))) s.heap.size) args s 0 0 (va_A w0 s.heap.size)) (w.set q0 (a, .inl (cI, N, .inl a'.1))) 0 0 5 [(0, .ref a), (1, .int a'.2.1), (2, .int a'.2.2.1), (3, .int a'.2.2.2)] [])) (fun _ _ hz hk hr => X_J7_fill_53178_H5 C hq hz hk hr) 1000 (f, x1, x2, x3) h
def J7_fill_53178 (N : Nat) (f : Nat → Int32) (x1 : Int32) : Option ((Nat → Int32)) :=
  J7_fill_53178_L5 N f x1 0 (Int32.ofNat N)
set_option maxHeartbeats 4000000 in
set_option maxRecDepth 100000 in
theorem X_J7_fill_53178 {p : Program} {l : Launch} {e : Env} {s : State} {m : MethodId} {args : Array Value} {below : List Frame} {meth : Method} {c : Code} {D : va_G} {cI cZ cJ : ClassId} {w w0 : va_W} {q0 a N : Nat} (C : XC p rm_J7_fill_53178 s m args meth c cJ7_fill_53178 4 none RJ7 wsJ7_fill_53178 D (t3 cI cZ cJ)) {f : Nat → Int32} {x1 : Int32} {r : (Nat → Int32)} (hq : q0 < w.length) (h : J7_fill_53178 N f x1 = some r) : XW p l e rm_J7_fill_53178 s m args below meth c D w0 4 (MQ below (QV D (t3 cI cZ cJ) w0 (w.set q0 (a, .inl (cI, N, .inl r))) s.heap.size) args s 0 0 (va_A w0 s.heap.size)) (w.set q0 (a, .inl (cI, N, .inl f))) 0 0 0 [(0, .ref a), (1, .int x1)] [] := by
  unfold J7_fill_53178 at h
  refine x_iconst C (v := 0) dJ7_fill_53178_0 (by decide) ?_
  refine x_istore_n C (lv' := [(0, .ref a), (1, .int x1), (2, .int 0)]) dJ7_fill_53178_1 (by decide) rfl ?_
  refine x_aload_n C 0 dJ7_fill_53178_2 rfl ?_
  refine x_alen C q0 0 (set_at hq) rfl dJ7_fill_53178_3 ?_
  refine x_istore_n C (lv' := [(0, .ref a), (1, .int x1), (2, .int 0), (3, .int (Int32.ofNat N))]) dJ7_fill_53178_4 (by decide) rfl ?_
  exact X_J7_fill_53178_L5 C hq h
set_option maxRecDepth 100000 in
theorem c_J7_fill_53178 {l : Launch} {D : va_G} {cI cZ cJ : ClassId} {w : va_W} {a N : Nat} {f : Nat → Int32} {x1 : Int32} {r : (Nat → Int32)} (q0 : Nat) (hw : w[q0]? = some (a, .inl (cI, N, .inl f))) (h : J7_fill_53178 N f x1 = some r) : ∀ sz, Met l yJ7_fill_53178 wsJ7_fill_53178 rm_J7_fill_53178 (PC D (t3 cI cZ cJ) [.ref a, .int x1] w sz) (QV D (t3 cI cZ cJ) w (w.set q0 (a, .inl (cI, N, .inl r))) sz) 0 0 (va_A w sz) := by
  refine x_met (Qc := fun sz => QV D (t3 cI cZ cJ) w (w.set q0 (a, .inl (cI, N, .inl r))) sz) RJ7 rfl (by decide) rfl (Nat.le_of_ble_eq_true rfl) (fun p e s m args below meth c C => ?_)
  refine x_eqw (set_self hw).symm ?_
  exact X_J7_fill_53178 C (lt_of_at hw) h
/-! EntryMasters$Tree.clear()V -/
abbrev rm_X4_clear : Room := { frames := 1, cells := 0, slots := 0, locals := 23 }
theorem hi_X4_clear_4 : ∀ z ∈ u_ws RX4 TX4 11, z ∈ wsX4_clear := by decide +kernel
theorem lk_X4_clear_15 : Cond.fieldLink RX4 15 RX4 "there" "[Z" ∈ wsX4_clear := by decide +kernel
theorem lk_X4_clear_19 : Cond.fieldLink RX4 19 RX4 "parents" "[I" ∈ wsX4_clear := by decide +kernel
theorem lk_X4_clear_22 : Cond.fieldLink RX4 22 RX4 "labels" "[I" ∈ wsX4_clear := by decide +kernel
theorem lk_X4_clear_25 : Cond.fieldLink RX4 25 RX4 "classesOfEntries" "[I" ∈ wsX4_clear := by decide +kernel
theorem lk_X4_clear_28 : Cond.fieldLink RX4 28 RX4 "values" "[I" ∈ wsX4_clear := by decide +kernel
theorem lk_X4_clear_52 : Cond.fieldLink RX4 52 RX4 "size" "I" ∈ wsX4_clear := by decide +kernel
theorem cw_X4_clear_J7_fill_53178_46 {p : Program} {s : State} {m : MethodId} {args : Array Value} {meth : Method} {c : Code} {D : va_G} {tys : List (ClassId × FieldType)} {R : Room} (C : XC p R s m args meth c cX4_clear 2 none RX4 wsX4_clear D tys) : CallB rm_X4_clear s args RX4 46 yJ7_fill_53178 cJ7_fill_53178 4 none wsJ7_fill_53178 rm_J7_fill_53178 0 0 2 ∧ (Cond.static yJ7_fill_53178).before args s = true := va_cwS 2 C.2.2.2.2.1 gX4_clear_J7_fill_53178 rfl rfl rfl (by decide +kernel) ⟨Nat.le_of_ble_eq_true rfl, Nat.le_of_ble_eq_true rfl⟩
def X4_clear_b82 (S : St) : Option (St) :=
  some S
set_option maxHeartbeats 4000000 in
set_option maxRecDepth 100000 in
theorem X_X4_clear_b82 {p : Program} {l : Launch} {e : Env} {s : State} {m : MethodId} {args : Array Value} {below : List Frame} {meth : Method} {c : Code} {D : va_G} {cI cZ cJ : ClassId} {ad : Nat → Nat} {rest w0 : va_W} (C : XC p rm_X4_clear s m args meth c cX4_clear 2 none RX4 wsX4_clear D (t3 cI cZ cJ)) {S : St} {r : St} (h : X4_clear_b82 S = some r) : XW p l e rm_X4_clear s m args below meth c D w0 2 (MQ below (QV D (t3 cI cZ cJ) w0 (wE cI cZ ad r rest) s.heap.size) args s 0 0 (va_A w0 s.heap.size)) (wE cI cZ ad S rest) 0 0 82 [] [] := by
  unfold X4_clear_b82 at h
  obtain rfl := Option.some.inj h
  exact x_vret C dX4_clear_82
def X4_clear_b77 (S : St) : Option (St) :=
  X4_clear_b82 (up S 0 (upd (S 0) 10 2))
set_option maxHeartbeats 4000000 in
set_option maxRecDepth 100000 in
theorem X_X4_clear_b77 {p : Program} {l : Launch} {e : Env} {s : State} {m : MethodId} {args : Array Value} {below : List Frame} {meth : Method} {c : Code} {D : va_G} {cI cZ cJ : ClassId} {ad : Nat → Nat} {rest w0 : va_W} (C : XC p rm_X4_clear s m args meth c cX4_clear 2 none RX4 wsX4_clear D (t3 cI cZ cJ)) {S : St} {r : St} (h : X4_clear_b77 S = some r) : XW p l e rm_X4_clear s m args below meth c D w0 2 (MQ below (QV D (t3 cI cZ cJ) w0 (wE cI cZ ad r rest) s.heap.size) args s 0 0 (va_A w0 s.heap.size)) (wE cI cZ ad S rest) 0 0 77 [(0, .ref (ad 0))] [] := by
  unfold X4_clear_b77 at h
  refine x_aload_n C 0 dX4_clear_77 rfl ?_
  refine x_iconst C (v := 2) dX4_clear_78 (by decide) ?_
  refine x_put C (R' := RX4) (T := TX4) (N := 11) (ci := 4) tyX4 tyX4_ok nmX4 0 10 rfl rfl (by decide) rfl rfl (lt_ble rfl) rfl hi_X4_clear_4 lk_X4_clear_52 dX4_clear_79 (wE_f0_10 cI cZ ad S rest 2) ?_
  refine x_locals (lv' := []) [] rfl ?_
  exact X_X4_clear_b82 C h
def X4_clear_b69 (S : St) : Option (St) :=
  if inB (1 : Int32) 42 then (X4_clear_b77 (up S 4 (upd (S 4) (1 : Int32).toNatClampNeg 99))) else none
set_option maxHeartbeats 4000000 in
set_option maxRecDepth 100000 in
theorem X_X4_clear_b69 {p : Program} {l : Launch} {e : Env} {s : State} {m : MethodId} {args : Array Value} {below : List Frame} {meth : Method} {c : Code} {D : va_G} {cI cZ cJ : ClassId} {ad : Nat → Nat} {rest w0 : va_W} (C : XC p rm_X4_clear s m args meth c cX4_clear 2 none RX4 wsX4_clear D (t3 cI cZ cJ)) {S : St} {r : St} (h : X4_clear_b69 S = some r) : XW p l e rm_X4_clear s m args below meth c D w0 2 (MQ below (QV D (t3 cI cZ cJ) w0 (wE cI cZ ad r rest) s.heap.size) args s 0 0 (va_A w0 s.heap.size)) (wE cI cZ ad S rest) 0 0 69 [(0, .ref (ad 0))] [] := by
  unfold X4_clear_b69 at h
  refine x_aload_n C 0 dX4_clear_69 rfl ?_
  refine x_get C (R' := RX4) (T := TX4) (N := 11) (ci := 4) 0 7 rfl rfl (by decide) rfl rfl hi_X4_clear_4 lk_X4_clear_22 dX4_clear_70 ?_
  refine x_iconst C (v := 1) dX4_clear_73 (by decide) ?_
  refine x_bipush C (v := 99) dX4_clear_74 (by decide) ?_
  obtain ⟨g76, h⟩ := gdB h
  refine x_iast C 4 rfl g76 dX4_clear_76 (wE_s4 cI cZ ad S rest (upd (S 4) (1 : Int32).toNatClampNeg 99)) ?_
  exact X_X4_clear_b77 C h
def X4_clear_b62 (S : St) : Option (St) :=
  if inB (1 : Int32) 42 then (X4_clear_b69 (up S 3 (upd (S 3) (1 : Int32).toNatClampNeg 0))) else none
set_option maxHeartbeats 4000000 in
set_option maxRecDepth 100000 in
theorem X_X4_clear_b62 {p : Program} {l : Launch} {e : Env} {s : State} {m : MethodId} {args : Array Value} {below : List Frame} {meth : Method} {c : Code} {D : va_G} {cI cZ cJ : ClassId} {ad : Nat → Nat} {rest w0 : va_W} (C : XC p rm_X4_clear s m args meth c cX4_clear 2 none RX4 wsX4_clear D (t3 cI cZ cJ)) {S : St} {r : St} (h : X4_clear_b62 S = some r) : XW p l e rm_X4_clear s m args below meth c D w0 2 (MQ below (QV D (t3 cI cZ cJ) w0 (wE cI cZ ad r rest) s.heap.size) args s 0 0 (va_A w0 s.heap.size)) (wE cI cZ ad S rest) 0 0 62 [(0, .ref (ad 0))] [] := by
  unfold X4_clear_b62 at h
  refine x_aload_n C 0 dX4_clear_62 rfl ?_
  refine x_get C (R' := RX4) (T := TX4) (N := 11) (ci := 4) 0 6 rfl rfl (by decide) rfl rfl hi_X4_clear_4 lk_X4_clear_19 dX4_clear_63 ?_
  refine x_iconst C (v := 1) dX4_clear_66 (by decide) ?_
  refine x_iconst C (v := 0) dX4_clear_67 (by decide) ?_
  obtain ⟨g68, h⟩ := gdB h
  refine x_iast C 3 rfl g68 dX4_clear_68 (wE_s3 cI cZ ad S rest (upd (S 3) (1 : Int32).toNatClampNeg 0)) ?_
  exact X_X4_clear_b69 C h
def X4_clear_b54 (S : St) : Option (St) :=
  (J7_fill_53178 168 (S 6) (-1)).bind fun f59 => X4_clear_b62 (up S 6 f59)
set_option maxHeartbeats 4000000 in
set_option maxRecDepth 100000 in
theorem X_X4_clear_b54 {p : Program} {l : Launch} {e : Env} {s : State} {m : MethodId} {args : Array Value} {below : List Frame} {meth : Method} {c : Code} {D : va_G} {cI cZ cJ : ClassId} {ad : Nat → Nat} {rest w0 : va_W} (C : XC p rm_X4_clear s m args meth c cX4_clear 2 none RX4 wsX4_clear D (t3 cI cZ cJ)) {S : St} {r : St} (h : X4_clear_b54 S = some r) : XW p l e rm_X4_clear s m args below meth c D w0 2 (MQ below (QV D (t3 cI cZ cJ) w0 (wE cI cZ ad r rest) s.heap.size) args s 0 0 (va_A w0 s.heap.size)) (wE cI cZ ad S rest) 0 0 54 [(0, .ref (ad 0))] [] := by
  unfold X4_clear_b54 at h
  refine x_aload_n C 0 dX4_clear_54 rfl ?_
  refine x_get C (R' := RX4) (T := TX4) (N := 11) (ci := 4) 0 9 rfl rfl (by decide) rfl rfl hi_X4_clear_4 lk_X4_clear_28 dX4_clear_55 ?_
  refine x_iconst C (v := (-1)) dX4_clear_58 (by decide) ?_
  obtain ⟨f59, hg59, h⟩ := ob h
  refine x_cv0 (x_runS C (As := [.ref (ad 6), .int (-1)]) (rest := []) (c_J7_fill_53178 6 rfl hg59) (cw_X4_clear_J7_fill_53178_46 C) rfl (Nat.le_of_ble_eq_true rfl) dX4_clear_59 ⟨Nat.zero_le _, Nat.zero_le _⟩) ?_
  refine x_eqw (wE_s6 cI cZ ad S rest f59) ?_
  exact X_X4_clear_b62 C h
def X4_clear_b46 (S : St) : Option (St) :=
  (J7_fill_53178 42 (S 5) 0).bind fun f51 => X4_clear_b54 (up S 5 f51)
set_option maxHeartbeats 4000000 in
set_option maxRecDepth 100000 in
theorem X_X4_clear_b46 {p : Program} {l : Launch} {e : Env} {s : State} {m : MethodId} {args : Array Value} {below : List Frame} {meth : Method} {c : Code} {D : va_G} {cI cZ cJ : ClassId} {ad : Nat → Nat} {rest w0 : va_W} (C : XC p rm_X4_clear s m args meth c cX4_clear 2 none RX4 wsX4_clear D (t3 cI cZ cJ)) {S : St} {r : St} (h : X4_clear_b46 S = some r) : XW p l e rm_X4_clear s m args below meth c D w0 2 (MQ below (QV D (t3 cI cZ cJ) w0 (wE cI cZ ad r rest) s.heap.size) args s 0 0 (va_A w0 s.heap.size)) (wE cI cZ ad S rest) 0 0 46 [(0, .ref (ad 0))] [] := by
  unfold X4_clear_b46 at h
  refine x_aload_n C 0 dX4_clear_46 rfl ?_
  refine x_get C (R' := RX4) (T := TX4) (N := 11) (ci := 4) 0 8 rfl rfl (by decide) rfl rfl hi_X4_clear_4 lk_X4_clear_25 dX4_clear_47 ?_
  refine x_iconst C (v := 0) dX4_clear_50 (by decide) ?_
  obtain ⟨f51, hg51, h⟩ := ob h
  refine x_cv0 (x_runS C (As := [.ref (ad 5), .int 0]) (rest := []) (c_J7_fill_53178 5 rfl hg51) (cw_X4_clear_J7_fill_53178_46 C) rfl (Nat.le_of_ble_eq_true rfl) dX4_clear_51 ⟨Nat.zero_le _, Nat.zero_le _⟩) ?_
  refine x_eqw (wE_s5 cI cZ ad S rest f51) ?_
  exact X_X4_clear_b54 C h
def X4_clear_b38 (S : St) : Option (St) :=
  (J7_fill_53178 42 (S 4) (-1)).bind fun f43 => X4_clear_b46 (up S 4 f43)
set_option maxHeartbeats 4000000 in
set_option maxRecDepth 100000 in
theorem X_X4_clear_b38 {p : Program} {l : Launch} {e : Env} {s : State} {m : MethodId} {args : Array Value} {below : List Frame} {meth : Method} {c : Code} {D : va_G} {cI cZ cJ : ClassId} {ad : Nat → Nat} {rest w0 : va_W} (C : XC p rm_X4_clear s m args meth c cX4_clear 2 none RX4 wsX4_clear D (t3 cI cZ cJ)) {S : St} {r : St} (h : X4_clear_b38 S = some r) : XW p l e rm_X4_clear s m args below meth c D w0 2 (MQ below (QV D (t3 cI cZ cJ) w0 (wE cI cZ ad r rest) s.heap.size) args s 0 0 (va_A w0 s.heap.size)) (wE cI cZ ad S rest) 0 0 38 [(0, .ref (ad 0))] [] := by
  unfold X4_clear_b38 at h
  refine x_aload_n C 0 dX4_clear_38 rfl ?_
  refine x_get C (R' := RX4) (T := TX4) (N := 11) (ci := 4) 0 7 rfl rfl (by decide) rfl rfl hi_X4_clear_4 lk_X4_clear_22 dX4_clear_39 ?_
  refine x_iconst C (v := (-1)) dX4_clear_42 (by decide) ?_
  obtain ⟨f43, hg43, h⟩ := ob h
  refine x_cv0 (x_runS C (As := [.ref (ad 4), .int (-1)]) (rest := []) (c_J7_fill_53178 4 rfl hg43) (cw_X4_clear_J7_fill_53178_46 C) rfl (Nat.le_of_ble_eq_true rfl) dX4_clear_43 ⟨Nat.zero_le _, Nat.zero_le _⟩) ?_
  refine x_eqw (wE_s4 cI cZ ad S rest f43) ?_
  exact X_X4_clear_b46 C h
def X4_clear_b30 (S : St) : Option (St) :=
  (J7_fill_53178 42 (S 3) (-1)).bind fun f35 => X4_clear_b38 (up S 3 f35)
set_option maxHeartbeats 4000000 in
set_option maxRecDepth 100000 in
theorem X_X4_clear_b30 {p : Program} {l : Launch} {e : Env} {s : State} {m : MethodId} {args : Array Value} {below : List Frame} {meth : Method} {c : Code} {D : va_G} {cI cZ cJ : ClassId} {ad : Nat → Nat} {rest w0 : va_W} (C : XC p rm_X4_clear s m args meth c cX4_clear 2 none RX4 wsX4_clear D (t3 cI cZ cJ)) {S : St} {r : St} (h : X4_clear_b30 S = some r) : XW p l e rm_X4_clear s m args below meth c D w0 2 (MQ below (QV D (t3 cI cZ cJ) w0 (wE cI cZ ad r rest) s.heap.size) args s 0 0 (va_A w0 s.heap.size)) (wE cI cZ ad S rest) 0 0 30 [(0, .ref (ad 0))] [] := by
  unfold X4_clear_b30 at h
  refine x_aload_n C 0 dX4_clear_30 rfl ?_
  refine x_get C (R' := RX4) (T := TX4) (N := 11) (ci := 4) 0 6 rfl rfl (by decide) rfl rfl hi_X4_clear_4 lk_X4_clear_19 dX4_clear_31 ?_
  refine x_iconst C (v := (-1)) dX4_clear_34 (by decide) ?_
  obtain ⟨f35, hg35, h⟩ := ob h
  refine x_cv0 (x_runS C (As := [.ref (ad 3), .int (-1)]) (rest := []) (c_J7_fill_53178 3 rfl hg35) (cw_X4_clear_J7_fill_53178_46 C) rfl (Nat.le_of_ble_eq_true rfl) dX4_clear_35 ⟨Nat.zero_le _, Nat.zero_le _⟩) ?_
  refine x_eqw (wE_s3 cI cZ ad S rest f35) ?_
  exact X_X4_clear_b38 C h
def X4_clear_b24 (S : St) (x1 : Int32) : Option ((St × Int32) ⊕ (St)) :=
  some (.inl (S, x1 + 1))
set_option maxHeartbeats 4000000 in
set_option maxRecDepth 100000 in
theorem X_X4_clear_b24 {p : Program} {l : Launch} {e : Env} {s : State} {m : MethodId} {args : Array Value} {below : List Frame} {meth : Method} {c : Code} {D : va_G} {cI cZ cJ : ClassId} {ad : Nat → Nat} {rest w0 : va_W} (C : XC p rm_X4_clear s m args meth c cX4_clear 2 none RX4 wsX4_clear D (t3 cI cZ cJ)) {S : St} {x1 : Int32} {z : (St × Int32) ⊕ (St)} {r : St} (h : X4_clear_b24 S x1 = some z) (hk : ∀ a' : (St × Int32), z = .inl a' → XW p l e rm_X4_clear s m args below meth c D w0 2 (MQ below (QV D (t3 cI cZ cJ) w0 (wE cI cZ ad r rest) s.heap.size) args s 0 0 (va_A w0 s.heap.size)) (wE cI cZ ad a'.1 rest) 0 0 2 [(0, .ref (ad 0)), (1, .int a'.2)] []) (hr : ∀ r', z = .inr r' → r' = r) : XW p l e rm_X4_clear s m args below meth c D w0 2 (MQ below (QV D (t3 cI cZ cJ) w0 (wE cI cZ ad r rest) s.heap.size) args s 0 0 (va_A w0 s.heap.size)) (wE cI cZ ad S rest) 0 0 24 [(0, .ref (ad 0)), (1, .int x1)] [] := by
  unfold X4_clear_b24 at h
  refine x_iinc C (v := x1 + 1) (lv' := [(0, .ref (ad 0)), (1, .int (x1 + 1))]) 1 dX4_clear_24 rfl rfl (by decide) rfl ?_
  refine x_goto C (t := 2) dX4_clear_27 (by decide) ?_
  exact hk _ (Option.some.inj h).symm
def X4_clear_b23 (S : St) (x1 s0 s1 : Int32) : Option ((St × Int32) ⊕ (St)) :=
  if inB s1 42 then (X4_clear_b24 (up S 2 (upd (S 2) s1.toNatClampNeg (vp_nar .boolean s0))) x1) else none
set_option maxHeartbeats 4000000 in
set_option maxRecDepth 100000 in
theorem X_X4_clear_b23 {p : Program} {l : Launch} {e : Env} {s : State} {m : MethodId} {args : Array Value} {below : List Frame} {meth : Method} {c : Code} {D : va_G} {cI cZ cJ : ClassId} {ad : Nat → Nat} {rest w0 : va_W} (C : XC p rm_X4_clear s m args meth c cX4_clear 2 none RX4 wsX4_clear D (t3 cI cZ cJ)) {S : St} {x1 s0 s1 : Int32} {z : (St × Int32) ⊕ (St)} {r : St} (h : X4_clear_b23 S x1 s0 s1 = some z) (hk : ∀ a' : (St × Int32), z = .inl a' → XW p l e rm_X4_clear s m args below meth c D w0 2 (MQ below (QV D (t3 cI cZ cJ) w0 (wE cI cZ ad r rest) s.heap.size) args s 0 0 (va_A w0 s.heap.size)) (wE cI cZ ad a'.1 rest) 0 0 2 [(0, .ref (ad 0)), (1, .int a'.2)] []) (hr : ∀ r', z = .inr r' → r' = r) : XW p l e rm_X4_clear s m args below meth c D w0 2 (MQ below (QV D (t3 cI cZ cJ) w0 (wE cI cZ ad r rest) s.heap.size) args s 0 0 (va_A w0 s.heap.size)) (wE cI cZ ad S rest) 0 0 23 [(0, .ref (ad 0)), (1, .int x1)] [.int s0, .int s1, .ref (ad 2)] := by
  unfold X4_clear_b23 at h
  obtain ⟨g23, h⟩ := gdB h
  refine x_zast C 2 rfl g23 dX4_clear_23 (wE_s2 cI cZ ad S rest (upd (S 2) s1.toNatClampNeg (vp_nar .boolean s0))) ?_
  exact X_X4_clear_b24 C h hk hr
def X4_clear_H2 (S : St) (x1 : Int32) : Option ((St × Int32) ⊕ (St)) :=
  if 42 ≤ x1 then (exI (X4_clear_b30 S)) else (if 2 ≤ x1 then (X4_clear_b23 S x1 0 x1) else (X4_clear_b23 S x1 1 x1))
set_option maxHeartbeats 4000000 in
set_option maxRecDepth 100000 in
theorem X_X4_clear_H2 {p : Program} {l : Launch} {e : Env} {s : State} {m : MethodId} {args : Array Value} {below : List Frame} {meth : Method} {c : Code} {D : va_G} {cI cZ cJ : ClassId} {ad : Nat → Nat} {rest w0 : va_W} (C : XC p rm_X4_clear s m args meth c cX4_clear 2 none RX4 wsX4_clear D (t3 cI cZ cJ)) {S : St} {x1 : Int32} {z : (St × Int32) ⊕ (St)} {r : St} (h : X4_clear_H2 S x1 = some z) (hk : ∀ a' : (St × Int32), z = .inl a' → XW p l e rm_X4_clear s m args below meth c D w0 2 (MQ below (QV D (t3 cI cZ cJ) w0 (wE cI cZ ad r rest) s.heap.size) args s 0 0 (va_A w0 s.heap.size)) (wE cI cZ ad a'.1 rest) 0 0 2 [(0, .ref (ad 0)), (1, .int a'.2)] []) (hr : ∀ r', z = .inr r' → r' = r) : XW p l e rm_X4_clear s m args below meth c D w0 2 (MQ below (QV D (t3 cI cZ cJ) w0 (wE cI cZ ad r rest) s.heap.size) args s 0 0 (va_A w0 s.heap.size)) (wE cI cZ ad S rest) 0 0 2 [(0, .ref (ad 0)), (1, .int x1)] [] := by
  unfold X4_clear_H2 at h
  refine x_iload_n C 1 dX4_clear_2 rfl ?_
  refine x_bipush C (v := 42) dX4_clear_3 (by decide) ?_
  refine x_icmp_ge C (t := 30) dX4_clear_5 (by decide) (fun c5 => ?_) (fun c5 => ?_)
  · replace h := (if_pos c5).symm.trans h
    refine x_locals (lv' := [(0, .ref (ad 0))]) [0] rfl ?_
    obtain ⟨r1, h1, h2⟩ := exI_some h
    obtain rfl := hr r1 h2
    exact X_X4_clear_b30 C h1
  · replace h := (if_neg c5).symm.trans h
    refine x_aload_n C 0 dX4_clear_8 rfl ?_
    refine x_get C (R' := RX4) (T := TX4) (N := 11) (ci := 4) 0 5 rfl rfl (by decide) rfl rfl hi_X4_clear_4 lk_X4_clear_15 dX4_clear_9 ?_
    refine x_iload_n C 1 dX4_clear_12 rfl ?_
    refine x_iload_n C 1 dX4_clear_13 rfl ?_
    refine x_iconst C (v := 2) dX4_clear_14 (by decide) ?_
    refine x_icmp_ge C (t := 22) dX4_clear_15 (by decide) (fun c15 => ?_) (fun c15 => ?_)
    · replace h := (if_pos c15).symm.trans h
      refine x_iconst C (v := 0) dX4_clear_22 (by decide) ?_
      exact X_X4_clear_b23 C h hk hr
    · replace h := (if_neg c15).symm.trans h
      refine x_iconst C (v := 1) dX4_clear_18 (by decide) ?_
      refine x_goto C (t := 23) dX4_clear_19 (by decide) ?_
      exact X_X4_clear_b23 C h hk hr
def X4_clear_L2 (S : St) (x1 : Int32) : Option (St) := wloop (fun a' : (St × Int32) => X4_clear_H2 a'.1 a'.2) 1000 (S, x1)
set_option maxHeartbeats 4000000 in
set_option maxRecDepth 100000 in
theorem X_X4_clear_L2 {p : Program} {l : Launch} {e : Env} {s : State} {m : MethodId} {args : Array Value} {below : List Frame} {meth : Method} {c : Code} {D : va_G} {cI cZ cJ : ClassId} {ad : Nat → Nat} {rest w0 : va_W} (C : XC p rm_X4_clear s m args meth c cX4_clear 2 none RX4 wsX4_clear D (t3 cI cZ cJ)) {S : St} {x1 : Int32} {r : St} (h : X4_clear_L2 S x1 = some r) : XW p l e rm_X4_clear s m args below meth c D w0 2 (MQ below (QV D (t3 cI cZ cJ) w0 (wE cI cZ ad r rest) s.heap.size) args s 0 0 (va_A w0 s.heap.size)) (wE cI cZ ad S rest) 0 0 2 [(0, .ref (ad 0)), (1, .int x1)] [] :=
  wloop_met (P := (fun a' : (St × Int32) => XW p l e rm_X4_clear s m args below meth c D w0 2 (MQ below (QV D (t3 cI cZ cJ) w0 (wE cI cZ ad r rest) s.heap.size) args s 0 0 (va_A w0 s.heap.size)) (wE cI cZ ad a'.1 rest) 0 0 2 [(0, .ref (ad 0)), (1, .int a'.2)] [])) (fun _ _ hz hk hr => X_X4_clear_H2 C hz hk hr) 1000 (S, x1) h
def X4_clear (S : St) : Option (St) :=
  X4_clear_L2 S 0
set_option maxHeartbeats 4000000 in
set_option maxRecDepth 100000 in
theorem X_X4_clear {p : Program} {l : Launch} {e : Env} {s : State} {m : MethodId} {args : Array Value} {below : List Frame} {meth : Method} {c : Code} {D : va_G} {cI cZ cJ : ClassId} {ad : Nat → Nat} {rest w0 : va_W} (C : XC p rm_X4_clear s m args meth c cX4_clear 2 none RX4 wsX4_clear D (t3 cI cZ cJ)) {S : St} {r : St} (h : X4_clear S = some r) : XW p l e rm_X4_clear s m args below meth c D w0 2 (MQ below (QV D (t3 cI cZ cJ) w0 (wE cI cZ ad r rest) s.heap.size) args s 0 0 (va_A w0 s.heap.size)) (wE cI cZ ad S rest) 0 0 0 [(0, .ref (ad 0))] [] := by
  unfold X4_clear at h
  refine x_iconst C (v := 0) dX4_clear_0 (by decide) ?_
  refine x_istore_n C (lv' := [(0, .ref (ad 0)), (1, .int 0)]) dX4_clear_1 (by decide) rfl ?_
  exact X_X4_clear_L2 C h
set_option maxRecDepth 100000 in
theorem c_X4_clear {l : Launch} {D : va_G} {cI cZ cJ : ClassId} {ad : Nat → Nat} {S : St} {rest : va_W} {r : St} (h : X4_clear S = some r) : ∀ sz, Met l yX4_clear wsX4_clear rm_X4_clear (PC D (t3 cI cZ cJ) [.ref (ad 0)] (wE cI cZ ad S rest) sz) (QV D (t3 cI cZ cJ) (wE cI cZ ad S rest) (wE cI cZ ad r rest) sz) 0 0 (va_A (wE cI cZ ad S rest) sz) := by
  refine x_met (Qc := fun sz => QV D (t3 cI cZ cJ) (wE cI cZ ad S rest) (wE cI cZ ad r rest) sz) RX4 rfl (by decide) rfl (Nat.le_of_ble_eq_true rfl) (fun p e s m args below meth c C => ?_)
  exact X_X4_clear C h
/-! EntryMasters$Tree.knows(I)Z -/
abbrev rm_X4_knows : Room := { frames := 0, cells := 0, slots := 0, locals := 0 }
theorem hi_X4_knows_4 : ∀ z ∈ u_ws RX4 TX4 11, z ∈ wsX4_knows := by decide +kernel
theorem lk_X4_knows_9 : Cond.fieldLink RX4 9 RX4 "known" "[I" ∈ wsX4_knows := by decide +kernel
theorem lk_X4_knows_55 : Cond.fieldLink RX4 55 RX4 "knownCount" "I" ∈ wsX4_knows := by decide +kernel
def X4_knows_b34 (S : St) : Option (Int32) :=
  some 0
set_option maxHeartbeats 4000000 in
set_option maxRecDepth 100000 in
theorem X_X4_knows_b34 {p : Program} {l : Launch} {e : Env} {s : State} {m : MethodId} {args : Array Value} {below : List Frame} {meth : Method} {c : Code} {D : va_G} {cI cZ cJ : ClassId} {ad : Nat → Nat} {rest w0 : va_W} (C : XC p rm_X4_knows s m args meth c cX4_knows 3 (some .boolean) RX4 wsX4_knows D (t3 cI cZ cJ)) {S : St} {r : Int32} (h : X4_knows_b34 S = some r) : XW p l e rm_X4_knows s m args below meth c D w0 3 (MQ below (QI D (t3 cI cZ cJ) w0 (wE cI cZ ad S rest) s.heap.size r) args s 0 0 (va_A w0 s.heap.size)) (wE cI cZ ad S rest) 0 0 34 [] [] := by
  unfold X4_knows_b34 at h
  refine x_iconst C (v := 0) dX4_knows_34 (by decide) ?_
  obtain rfl := Option.some.inj h
  exact x_zret C rfl dX4_knows_35
def X4_knows_b26 (S : St) : Option (Int32) :=
  some 1
set_option maxHeartbeats 4000000 in
set_option maxRecDepth 100000 in
theorem X_X4_knows_b26 {p : Program} {l : Launch} {e : Env} {s : State} {m : MethodId} {args : Array Value} {below : List Frame} {meth : Method} {c : Code} {D : va_G} {cI cZ cJ : ClassId} {ad : Nat → Nat} {rest w0 : va_W} (C : XC p rm_X4_knows s m args meth c cX4_knows 3 (some .boolean) RX4 wsX4_knows D (t3 cI cZ cJ)) {S : St} {r : Int32} (h : X4_knows_b26 S = some r) : XW p l e rm_X4_knows s m args below meth c D w0 3 (MQ below (QI D (t3 cI cZ cJ) w0 (wE cI cZ ad S rest) s.heap.size r) args s 0 0 (va_A w0 s.heap.size)) (wE cI cZ ad S rest) 0 0 26 [] [] := by
  unfold X4_knows_b26 at h
  refine x_iconst C (v := 1) dX4_knows_26 (by decide) ?_
  obtain rfl := Option.some.inj h
  exact x_zret C rfl dX4_knows_27
def X4_knows_H2 (S : St) (x1 x2 : Int32) : Option ((Int32 × Int32) ⊕ (Int32)) :=
  if (S 0 4) ≤ x2 then (exI (X4_knows_b34 S)) else (if 40 ≤ x2 then (exI (X4_knows_b34 S)) else (if inB x2 40 then (if (S 1 x2.toNatClampNeg) = x1 then (exI (X4_knows_b26 S)) else (some (.inl (x1, x2 + 1)))) else none))
set_option maxHeartbeats 4000000 in
set_option maxRecDepth 100000 in
theorem X_X4_knows_H2 {p : Program} {l : Launch} {e : Env} {s : State} {m : MethodId} {args : Array Value} {below : List Frame} {meth : Method} {c : Code} {D : va_G} {cI cZ cJ : ClassId} {ad : Nat → Nat} {rest w0 : va_W} (C : XC p rm_X4_knows s m args meth c cX4_knows 3 (some .boolean) RX4 wsX4_knows D (t3 cI cZ cJ)) {S : St} {x1 x2 : Int32} {z : (Int32 × Int32) ⊕ (Int32)} {r : Int32} (h : X4_knows_H2 S x1 x2 = some z) (hk : ∀ a' : (Int32 × Int32), z = .inl a' → XW p l e rm_X4_knows s m args below meth c D w0 3 (MQ below (QI D (t3 cI cZ cJ) w0 (wE cI cZ ad S rest) s.heap.size r) args s 0 0 (va_A w0 s.heap.size)) (wE cI cZ ad S rest) 0 0 2 [(0, .ref (ad 0)), (1, .int a'.1), (2, .int a'.2)] []) (hr : ∀ r', z = .inr r' → r' = r) : XW p l e rm_X4_knows s m args below meth c D w0 3 (MQ below (QI D (t3 cI cZ cJ) w0 (wE cI cZ ad S rest) s.heap.size r) args s 0 0 (va_A w0 s.heap.size)) (wE cI cZ ad S rest) 0 0 2 [(0, .ref (ad 0)), (1, .int x1), (2, .int x2)] [] := by
  unfold X4_knows_H2 at h
  refine x_iload_n C 2 dX4_knows_2 rfl ?_
  refine x_aload_n C 0 dX4_knows_3 rfl ?_
  refine x_get C (R' := RX4) (T := TX4) (N := 11) (ci := 4) 0 4 rfl rfl (by decide) rfl rfl hi_X4_knows_4 lk_X4_knows_55 dX4_knows_4 ?_
  refine x_icmp_ge C (t := 34) dX4_knows_7 (by decide) (fun c7 => ?_) (fun c7 => ?_)
  · replace h := (if_pos c7).symm.trans h
    refine x_locals (lv' := []) [] rfl ?_
    obtain ⟨r1, h1, h2⟩ := exI_some h
    obtain rfl := hr r1 h2
    exact X_X4_knows_b34 C h1
  · replace h := (if_neg c7).symm.trans h
    refine x_iload_n C 2 dX4_knows_10 rfl ?_
    refine x_bipush C (v := 40) dX4_knows_11 (by decide) ?_
    refine x_icmp_ge C (t := 34) dX4_knows_13 (by decide) (fun c13 => ?_) (fun c13 => ?_)
    · replace h := (if_pos c13).symm.trans h
      refine x_locals (lv' := []) [] rfl ?_
      obtain ⟨r1, h1, h2⟩ := exI_some h
      obtain rfl := hr r1 h2
      exact X_X4_knows_b34 C h1
    · replace h := (if_neg c13).symm.trans h
      refine x_aload_n C 0 dX4_knows_16 rfl ?_
      refine x_get C (R' := RX4) (T := TX4) (N := 11) (ci := 4) 0 3 rfl rfl (by decide) rfl rfl hi_X4_knows_4 lk_X4_knows_9 dX4_knows_17 ?_
      refine x_iload_n C 2 dX4_knows_20 rfl ?_
      obtain ⟨g21, h⟩ := gdB h
      refine x_iald C 1 rfl g21 dX4_knows_21 ?_
      refine x_iload_n C 1 dX4_knows_22 rfl ?_
      refine x_icmp_ne C (t := 28) dX4_knows_23 (by decide) (fun c23 => ?_) (fun c23 => ?_)
      · replace h := (if_neg c23).symm.trans h
        refine x_iinc C (v := x2 + 1) (lv' := [(0, .ref (ad 0)), (1, .int x1), (2, .int (x2 + 1))]) 2 dX4_knows_28 rfl rfl (by decide) rfl ?_
        refine x_goto C (t := 2) dX4_knows_31 (by decide) ?_
        exact hk _ (Option.some.inj h).symm
      · replace h := (if_pos c23).symm.trans h
        refine x_locals (lv' := []) [] rfl ?_
        obtain ⟨r1, h1, h2⟩ := exI_some h
        obtain rfl := hr r1 h2
        exact X_X4_knows_b26 C h1
def X4_knows_L2 (S : St) (x1 x2 : Int32) : Option (Int32) := wloop (fun a' : (Int32 × Int32) => X4_knows_H2 S a'.1 a'.2) 1000 (x1, x2)
set_option maxHeartbeats 4000000 in
set_option maxRecDepth 100000 in
theorem X_X4_knows_L2 {p : Program} {l : Launch} {e : Env} {s : State} {m : MethodId} {args : Array Value} {below : List Frame} {meth : Method} {c : Code} {D : va_G} {cI cZ cJ : ClassId} {ad : Nat → Nat} {rest w0 : va_W} (C : XC p rm_X4_knows s m args meth c cX4_knows 3 (some .boolean) RX4 wsX4_knows D (t3 cI cZ cJ)) {S : St} {x1 x2 : Int32} {r : Int32} (h : X4_knows_L2 S x1 x2 = some r) : XW p l e rm_X4_knows s m args below meth c D w0 3 (MQ below (QI D (t3 cI cZ cJ) w0 (wE cI cZ ad S rest) s.heap.size r) args s 0 0 (va_A w0 s.heap.size)) (wE cI cZ ad S rest) 0 0 2 [(0, .ref (ad 0)), (1, .int x1), (2, .int x2)] [] :=
  wloop_met (P := (fun a' : (Int32 × Int32) => XW p l e rm_X4_knows s m args below meth c D w0 3 (MQ below (QI D (t3 cI cZ cJ) w0 (wE cI cZ ad S rest) s.heap.size r) args s 0 0 (va_A w0 s.heap.size)) (wE cI cZ ad S rest) 0 0 2 [(0, .ref (ad 0)), (1, .int a'.1), (2, .int a'.2)] [])) (fun _ _ hz hk hr => X_X4_knows_H2 C hz hk hr) 1000 (x1, x2) h
def X4_knows (S : St) (x1 : Int32) : Option (Int32) :=
  X4_knows_L2 S x1 0
set_option maxHeartbeats 4000000 in
set_option maxRecDepth 100000 in
theorem X_X4_knows {p : Program} {l : Launch} {e : Env} {s : State} {m : MethodId} {args : Array Value} {below : List Frame} {meth : Method} {c : Code} {D : va_G} {cI cZ cJ : ClassId} {ad : Nat → Nat} {rest w0 : va_W} (C : XC p rm_X4_knows s m args meth c cX4_knows 3 (some .boolean) RX4 wsX4_knows D (t3 cI cZ cJ)) {S : St} {x1 : Int32} {r : Int32} (h : X4_knows S x1 = some r) : XW p l e rm_X4_knows s m args below meth c D w0 3 (MQ below (QI D (t3 cI cZ cJ) w0 (wE cI cZ ad S rest) s.heap.size r) args s 0 0 (va_A w0 s.heap.size)) (wE cI cZ ad S rest) 0 0 0 [(0, .ref (ad 0)), (1, .int x1)] [] := by
  unfold X4_knows at h
  refine x_iconst C (v := 0) dX4_knows_0 (by decide) ?_
  refine x_istore_n C (lv' := [(0, .ref (ad 0)), (1, .int x1), (2, .int 0)]) dX4_knows_1 (by decide) rfl ?_
  exact X_X4_knows_L2 C h
set_option maxRecDepth 100000 in
theorem c_X4_knows {l : Launch} {D : va_G} {cI cZ cJ : ClassId} {ad : Nat → Nat} {S : St} {rest : va_W} {x1 : Int32} {r : Int32} (h : X4_knows S x1 = some r) : ∀ sz, Met l yX4_knows wsX4_knows rm_X4_knows (PC D (t3 cI cZ cJ) [.ref (ad 0), .int x1] (wE cI cZ ad S rest) sz) (QI D (t3 cI cZ cJ) (wE cI cZ ad S rest) (wE cI cZ ad S rest) sz r) 0 0 (va_A (wE cI cZ ad S rest) sz) := by
  refine x_met (Qc := fun sz => QI D (t3 cI cZ cJ) (wE cI cZ ad S rest) (wE cI cZ ad S rest) sz r) RX4 rfl (by decide) rfl (Nat.le_of_ble_eq_true rfl) (fun p e s m args below meth c C => ?_)
  exact X_X4_knows C h
/-! EntryMasters$Tree.stampOfNext()I -/
abbrev rm_X4_stampOfNext : Room := { frames := 2, cells := 0, slots := 0, locals := 42 }
theorem hi_X4_stampOfNext_4 : ∀ z ∈ u_ws RX4 TX4 11, z ∈ wsX4_stampOfNext := by decide +kernel
theorem lk_X4_stampOfNext_9 : Cond.fieldLink RX4 9 RX4 "known" "[I" ∈ wsX4_stampOfNext := by decide +kernel
theorem lk_X4_stampOfNext_31 : Cond.fieldLink RX4 31 RX4 "master" "I" ∈ wsX4_stampOfNext := by decide +kernel
theorem lk_X4_stampOfNext_35 : Cond.fieldLink RX4 35 RX4 "log" "LEntryMasters$Log;" ∈ wsX4_stampOfNext := by decide +kernel
theorem lk_X4_stampOfNext_55 : Cond.fieldLink RX4 55 RX4 "knownCount" "I" ∈ wsX4_stampOfNext := by decide +kernel
theorem cw_X4_stampOfNext_X2_stampFrom_68 {p : Program} {s : State} {m : MethodId} {args : Array Value} {meth : Method} {c : Code} {D : va_G} {tys : List (ClassId × FieldType)} {R : Room} (C : XC p R s m args meth c cX4_stampOfNext 2 (some .int) RX4 wsX4_stampOfNext D tys) : CallB rm_X4_stampOfNext s args RX4 68 yX2_stampFrom cX2_stampFrom 2 (some .int) wsX2_stampFrom rm_X2_stampFrom 0 0 2 ∧ (Cond.static yX2_stampFrom).before args s = true := va_cwS 2 C.2.2.2.2.1 gX4_stampOfNext_X2_stampFrom rfl rfl rfl (by decide +kernel) ⟨Nat.le_of_ble_eq_true rfl, Nat.le_of_ble_eq_true rfl⟩
theorem cw_X4_stampOfNext_X2_timeAt_62 {p : Program} {s : State} {m : MethodId} {args : Array Value} {meth : Method} {c : Code} {D : va_G} {tys : List (ClassId × FieldType)} {R : Room} (C : XC p R s m args meth c cX4_stampOfNext 2 (some .int) RX4 wsX4_stampOfNext D tys) : CallW rm_X4_stampOfNext s args RX4 RX2 62 yX2_timeAt cX2_timeAt 2 (some .int) wsX2_timeAt rm_X2_timeAt 0 0 1 := cwV 1 C.2.2.2.2.1 gX4_stampOfNext_X2_timeAt rfl rfl rfl (by decide +kernel) ⟨Nat.le_of_ble_eq_true rfl, Nat.le_of_ble_eq_true rfl⟩
theorem cw_X4_stampOfNext_X5_at_58 {p : Program} {s : State} {m : MethodId} {args : Array Value} {meth : Method} {c : Code} {D : va_G} {tys : List (ClassId × FieldType)} {R : Room} (C : XC p R s m args meth c cX4_stampOfNext 2 (some .int) RX4 wsX4_stampOfNext D tys) : va_CN rm_X4_stampOfNext s args RX4 58 yX5_at RX5 cX5_at 2 (some .int) wsX5_at rm_X5_at 0 0 2 ∧ (Cond.static yX5_at).before args s = true ∧ True := ⟨va_cnB 2 C.2.2.2.2.1 gX4_stampOfNext_X5_at_n58 rfl rfl rfl (C.2.2.2.2.2.2.1.1 _ (nm_mem 9 rfl)) (C.2.2.2.2.1 (.initialized RX5) (by decide +kernel)) (by decide +kernel) ⟨Nat.le_of_ble_eq_true rfl, Nat.le_of_ble_eq_true rfl⟩, C.2.2.2.2.1 (.static yX5_at) (by decide +kernel), trivial⟩
def X4_stampOfNext_b31 (S : St) (s0 : Int32) : Option (Int32) :=
  (X2_stampFrom (s0 + 1) (S 0 0)).bind fun v39 => some v39
set_option maxHeartbeats 4000000 in
set_option maxRecDepth 100000 in
theorem X_X4_stampOfNext_b31 {p : Program} {l : Launch} {e : Env} {s : State} {m : MethodId} {args : Array Value} {below : List Frame} {meth : Method} {c : Code} {D : va_G} {cI cZ cJ : ClassId} {ad : Nat → Nat} {rest w0 : va_W} (C : XC p rm_X4_stampOfNext s m args meth c cX4_stampOfNext 2 (some .int) RX4 wsX4_stampOfNext D (t3 cI cZ cJ)) {S : St} {s0 : Int32} {r : Int32} (h : X4_stampOfNext_b31 S s0 = some r) : XW p l e rm_X4_stampOfNext s m args below meth c D w0 2 (MQ below (QI D (t3 cI cZ cJ) w0 (wE cI cZ ad S rest) s.heap.size r) args s 0 0 (va_A w0 s.heap.size)) (wE cI cZ ad S rest) 0 0 31 [(0, .ref (ad 0))] [.int s0] := by
  unfold X4_stampOfNext_b31 at h
  refine x_istore_n C (lv' := [(0, .ref (ad 0)), (1, .int s0)]) dX4_stampOfNext_31 (by decide) rfl ?_
  refine x_iload_n C 1 dX4_stampOfNext_32 rfl ?_
  refine x_iconst C (v := 1) dX4_stampOfNext_33 (by decide) ?_
  refine x_iadd C dX4_stampOfNext_34 ?_
  refine x_aload_n C 0 dX4_stampOfNext_35 rfl ?_
  refine x_get C (R' := RX4) (T := TX4) (N := 11) (ci := 4) 0 0 rfl rfl (by decide) rfl rfl hi_X4_stampOfNext_4 lk_X4_stampOfNext_31 dX4_stampOfNext_36 ?_
  obtain ⟨v39, hg39, h⟩ := ob h
  refine x_ci0 (x_runS C (As := [.int (s0 + 1), .int (S 0 0)]) (rest := []) (c_X2_stampFrom hg39) (cw_X4_stampOfNext_X2_stampFrom_68 C) rfl (Nat.le_of_ble_eq_true rfl) dX4_stampOfNext_39 ⟨Nat.zero_le _, Nat.zero_le _⟩) ?_
  obtain rfl := Option.some.inj h
  exact x_iret C dX4_stampOfNext_42
def X4_stampOfNext (S : St) : Option (Int32) :=
  if (S 0 4) = 0 then (X4_stampOfNext_b31 S 0) else ((X5_at 40 (S 1) ((S 0 4) - 1)).bind fun v25 => (X2_timeAt S v25).bind fun v28 => X4_stampOfNext_b31 S v28)
set_option maxHeartbeats 4000000 in
set_option maxRecDepth 100000 in
theorem X_X4_stampOfNext {p : Program} {l : Launch} {e : Env} {s : State} {m : MethodId} {args : Array Value} {below : List Frame} {meth : Method} {c : Code} {D : va_G} {cI cZ cJ : ClassId} {ad : Nat → Nat} {rest w0 : va_W} (C : XC p rm_X4_stampOfNext s m args meth c cX4_stampOfNext 2 (some .int) RX4 wsX4_stampOfNext D (t3 cI cZ cJ)) {S : St} {r : Int32} (h : X4_stampOfNext S = some r) : XW p l e rm_X4_stampOfNext s m args below meth c D w0 2 (MQ below (QI D (t3 cI cZ cJ) w0 (wE cI cZ ad S rest) s.heap.size r) args s 0 0 (va_A w0 s.heap.size)) (wE cI cZ ad S rest) 0 0 0 [(0, .ref (ad 0))] [] := by
  unfold X4_stampOfNext at h
  refine x_aload_n C 0 dX4_stampOfNext_0 rfl ?_
  refine x_get C (R' := RX4) (T := TX4) (N := 11) (ci := 4) 0 4 rfl rfl (by decide) rfl rfl hi_X4_stampOfNext_4 lk_X4_stampOfNext_55 dX4_stampOfNext_1 ?_
  refine x_if_ne C (t := 11) dX4_stampOfNext_4 (by decide) (fun c4 => ?_) (fun c4 => ?_)
  · replace h := (if_neg c4).symm.trans h
    refine x_aload_n C 0 dX4_stampOfNext_11 rfl ?_
    refine x_get C (R' := RX4) (T := TX4) (N := 11) (ci := 4) 0 1 rfl rfl (by decide) rfl rfl hi_X4_stampOfNext_4 lk_X4_stampOfNext_35 dX4_stampOfNext_12 ?_
    refine x_aload_n C 0 dX4_stampOfNext_15 rfl ?_
    refine x_get C (R' := RX4) (T := TX4) (N := 11) (ci := 4) 0 3 rfl rfl (by decide) rfl rfl hi_X4_stampOfNext_4 lk_X4_stampOfNext_9 dX4_stampOfNext_16 ?_
    refine x_aload_n C 0 dX4_stampOfNext_19 rfl ?_
    refine x_get C (R' := RX4) (T := TX4) (N := 11) (ci := 4) 0 4 rfl rfl (by decide) rfl rfl hi_X4_stampOfNext_4 lk_X4_stampOfNext_55 dX4_stampOfNext_20 ?_
    refine x_iconst C (v := 1) dX4_stampOfNext_23 (by decide) ?_
    refine x_isub C dX4_stampOfNext_24 ?_
    obtain ⟨v25, hg25, h⟩ := ob h
    refine x_ci0 (x_runSN C (As := [.ref (ad 1), .int ((S 0 4) - 1)]) (rest := [.ref (ad 14)]) (c_X5_at 1 rfl hg25) (cw_X4_stampOfNext_X5_at_58 C) rfl (Nat.le_of_ble_eq_true rfl) dX4_stampOfNext_25 ⟨Nat.zero_le _, Nat.zero_le _⟩) ?_
    obtain ⟨v28, hg28, h⟩ := ob h
    refine x_ci0 (x_runV C (As := [.int v25]) (rest := []) (c_X2_timeAt hg28) (cw_X4_stampOfNext_X2_timeAt_62 C) 14 rfl rfl rfl (Nat.le_of_ble_eq_true rfl) dX4_stampOfNext_28 ⟨Nat.zero_le _, Nat.zero_le _⟩) ?_
    exact X_X4_stampOfNext_b31 C h
  · replace h := (if_pos c4).symm.trans h
    refine x_iconst C (v := 0) dX4_stampOfNext_7 (by decide) ?_
    refine x_goto C (t := 31) dX4_stampOfNext_8 (by decide) ?_
    exact X_X4_stampOfNext_b31 C h
set_option maxRecDepth 100000 in
theorem c_X4_stampOfNext {l : Launch} {D : va_G} {cI cZ cJ : ClassId} {ad : Nat → Nat} {S : St} {rest : va_W} {r : Int32} (h : X4_stampOfNext S = some r) : ∀ sz, Met l yX4_stampOfNext wsX4_stampOfNext rm_X4_stampOfNext (PC D (t3 cI cZ cJ) [.ref (ad 0)] (wE cI cZ ad S rest) sz) (QI D (t3 cI cZ cJ) (wE cI cZ ad S rest) (wE cI cZ ad S rest) sz r) 0 0 (va_A (wE cI cZ ad S rest) sz) := by
  refine x_met (Qc := fun sz => QI D (t3 cI cZ cJ) (wE cI cZ ad S rest) (wE cI cZ ad S rest) sz r) RX4 rfl (by decide) rfl (Nat.le_of_ble_eq_true rfl) (fun p e s m args below meth c C => ?_)
  exact X_X4_stampOfNext C h
/-! EntryMasters$Tree.putInOrder(I)I -/
abbrev rm_X4_putInOrder : Room := { frames := 2, cells := 0, slots := 0, locals := 42 }
theorem hi_X4_putInOrder_4 : ∀ z ∈ u_ws RX4 TX4 11, z ∈ wsX4_putInOrder := by decide +kernel
theorem lk_X4_putInOrder_9 : Cond.fieldLink RX4 9 RX4 "known" "[I" ∈ wsX4_putInOrder := by decide +kernel
theorem lk_X4_putInOrder_35 : Cond.fieldLink RX4 35 RX4 "log" "LEntryMasters$Log;" ∈ wsX4_putInOrder := by decide +kernel
theorem lk_X4_putInOrder_55 : Cond.fieldLink RX4 55 RX4 "knownCount" "I" ∈ wsX4_putInOrder := by decide +kernel
theorem cw_X4_putInOrder_X2_stampAt_79 {p : Program} {s : State} {m : MethodId} {args : Array Value} {meth : Method} {c : Code} {D : va_G} {tys : List (ClassId × FieldType)} {R : Room} (C : XC p R s m args meth c cX4_putInOrder 3 (some .int) RX4 wsX4_putInOrder D tys) : CallW rm_X4_putInOrder s args RX4 RX2 79 yX2_stampAt cX2_stampAt 2 (some .int) wsX2_stampAt rm_X2_stampAt 0 0 1 := cwV 1 C.2.2.2.2.1 gX4_putInOrder_X2_stampAt rfl rfl rfl (by decide +kernel) ⟨Nat.le_of_ble_eq_true rfl, Nat.le_of_ble_eq_true rfl⟩
theorem cw_X4_putInOrder_X5_at_58 {p : Program} {s : State} {m : MethodId} {args : Array Value} {meth : Method} {c : Code} {D : va_G} {tys : List (ClassId × FieldType)} {R : Room} (C : XC p R s m args meth c cX4_putInOrder 3 (some .int) RX4 wsX4_putInOrder D tys) : va_CN rm_X4_putInOrder s args RX4 58 yX5_at RX5 cX5_at 2 (some .int) wsX5_at rm_X5_at 0 0 2 ∧ (Cond.static yX5_at).before args s = true ∧ True := ⟨va_cnB 2 C.2.2.2.2.1 gX4_putInOrder_X5_at_n58 rfl rfl rfl (C.2.2.2.2.2.2.1.1 _ (nm_mem 9 rfl)) (C.2.2.2.2.1 (.initialized RX5) (by decide +kernel)) (by decide +kernel) ⟨Nat.le_of_ble_eq_true rfl, Nat.le_of_ble_eq_true rfl⟩, C.2.2.2.2.1 (.static yX5_at) (by decide +kernel), trivial⟩
theorem cw_X4_putInOrder_X5_put_82 {p : Program} {s : State} {m : MethodId} {args : Array Value} {meth : Method} {c : Code} {D : va_G} {tys : List (ClassId × FieldType)} {R : Room} (C : XC p R s m args meth c cX4_putInOrder 3 (some .int) RX4 wsX4_putInOrder D tys) : va_CN rm_X4_putInOrder s args RX4 82 yX5_put RX5 cX5_put 3 none wsX5_put rm_X5_put 0 0 3 ∧ (Cond.static yX5_put).before args s = true ∧ True := ⟨va_cnB 3 C.2.2.2.2.1 gX4_putInOrder_X5_put_n82 rfl rfl rfl (C.2.2.2.2.2.2.1.1 _ (nm_mem 10 rfl)) (C.2.2.2.2.1 (.initialized RX5) (by decide +kernel)) (by decide +kernel) ⟨Nat.le_of_ble_eq_true rfl, Nat.le_of_ble_eq_true rfl⟩, C.2.2.2.2.1 (.static yX5_put) (by decide +kernel), trivial⟩
def X4_putInOrder_b80 (S : St) (x2 : Int32) : Option (Int32 × St) :=
  some (x2, S)
set_option maxHeartbeats 4000000 in
set_option maxRecDepth 100000 in
theorem X_X4_putInOrder_b80 {p : Program} {l : Launch} {e : Env} {s : State} {m : MethodId} {args : Array Value} {below : List Frame} {meth : Method} {c : Code} {D : va_G} {cI cZ cJ : ClassId} {ad : Nat → Nat} {rest w0 : va_W} (C : XC p rm_X4_putInOrder s m args meth c cX4_putInOrder 3 (some .int) RX4 wsX4_putInOrder D (t3 cI cZ cJ)) {S : St} {x2 : Int32} {r : Int32 × St} (h : X4_putInOrder_b80 S x2 = some r) : XW p l e rm_X4_putInOrder s m args below meth c D w0 3 (MQ below (QI D (t3 cI cZ cJ) w0 (wE cI cZ ad r.2 rest) s.heap.size r.1) args s 0 0 (va_A w0 s.heap.size)) (wE cI cZ ad S rest) 0 0 80 [(2, .int x2)] [] := by
  unfold X4_putInOrder_b80 at h
  refine x_iload_n C 0 dX4_putInOrder_80 rfl ?_
  obtain rfl := Option.some.inj h
  exact x_iret C dX4_putInOrder_81
def X4_putInOrder_b70 (S : St) (x2 : Int32) : Option (Int32 × St) :=
  X4_putInOrder_b80 (up S 0 (upd (S 0) 4 ((S 0 4) + 1))) x2
set_option maxHeartbeats 4000000 in
set_option maxRecDepth 100000 in
theorem X_X4_putInOrder_b70 {p : Program} {l : Launch} {e : Env} {s : State} {m : MethodId} {args : Array Value} {below : List Frame} {meth : Method} {c : Code} {D : va_G} {cI cZ cJ : ClassId} {ad : Nat → Nat} {rest w0 : va_W} (C : XC p rm_X4_putInOrder s m args meth c cX4_putInOrder 3 (some .int) RX4 wsX4_putInOrder D (t3 cI cZ cJ)) {S : St} {x2 : Int32} {r : Int32 × St} (h : X4_putInOrder_b70 S x2 = some r) : XW p l e rm_X4_putInOrder s m args below meth c D w0 3 (MQ below (QI D (t3 cI cZ cJ) w0 (wE cI cZ ad r.2 rest) s.heap.size r.1) args s 0 0 (va_A w0 s.heap.size)) (wE cI cZ ad S rest) 0 0 70 [(0, .ref (ad 0)), (2, .int x2)] [] := by
  unfold X4_putInOrder_b70 at h
  refine x_aload_n C 0 dX4_putInOrder_70 rfl ?_
  refine x_dup C dX4_putInOrder_71 rfl ?_
  refine x_get C (R' := RX4) (T := TX4) (N := 11) (ci := 4) 0 4 rfl rfl (by decide) rfl rfl hi_X4_putInOrder_4 lk_X4_putInOrder_55 dX4_putInOrder_72 ?_
  refine x_iconst C (v := 1) dX4_putInOrder_75 (by decide) ?_
  refine x_iadd C dX4_putInOrder_76 ?_
  refine x_put C (R' := RX4) (T := TX4) (N := 11) (ci := 4) tyX4 tyX4_ok nmX4 0 4 rfl rfl (by decide) rfl rfl (lt_ble rfl) rfl hi_X4_putInOrder_4 lk_X4_putInOrder_55 dX4_putInOrder_77 (wE_f0_4 cI cZ ad S rest ((S 0 4) + 1)) ?_
  refine x_locals (lv' := [(2, .int x2)]) [1] rfl ?_
  exact X_X4_putInOrder_b80 C h
def X4_putInOrder_b61 (S : St) (x1 x2 : Int32) : Option (Int32 × St) :=
  (X5_put 40 (S 1) x2 x1).bind fun f67 => X4_putInOrder_b70 (up S 1 f67) x2
set_option maxHeartbeats 4000000 in
set_option maxRecDepth 100000 in
theorem X_X4_putInOrder_b61 {p : Program} {l : Launch} {e : Env} {s : State} {m : MethodId} {args : Array Value} {below : List Frame} {meth : Method} {c : Code} {D : va_G} {cI cZ cJ : ClassId} {ad : Nat → Nat} {rest w0 : va_W} (C : XC p rm_X4_putInOrder s m args meth c cX4_putInOrder 3 (some .int) RX4 wsX4_putInOrder D (t3 cI cZ cJ)) {S : St} {x1 x2 : Int32} {r : Int32 × St} (h : X4_putInOrder_b61 S x1 x2 = some r) : XW p l e rm_X4_putInOrder s m args below meth c D w0 3 (MQ below (QI D (t3 cI cZ cJ) w0 (wE cI cZ ad r.2 rest) s.heap.size r.1) args s 0 0 (va_A w0 s.heap.size)) (wE cI cZ ad S rest) 0 0 61 [(0, .ref (ad 0)), (1, .int x1), (2, .int x2)] [] := by
  unfold X4_putInOrder_b61 at h
  refine x_aload_n C 0 dX4_putInOrder_61 rfl ?_
  refine x_get C (R' := RX4) (T := TX4) (N := 11) (ci := 4) 0 3 rfl rfl (by decide) rfl rfl hi_X4_putInOrder_4 lk_X4_putInOrder_9 dX4_putInOrder_62 ?_
  refine x_iload_n C 2 dX4_putInOrder_65 rfl ?_
  refine x_iload_n C 1 dX4_putInOrder_66 rfl ?_
  obtain ⟨f67, hg67, h⟩ := ob h
  refine x_cv0 (x_runSN C (As := [.ref (ad 1), .int x2, .int x1]) (rest := []) (c_X5_put 1 rfl hg67) (cw_X4_putInOrder_X5_put_82 C) rfl (Nat.le_of_ble_eq_true rfl) dX4_putInOrder_67 ⟨Nat.zero_le _, Nat.zero_le _⟩) ?_
  refine x_eqw (wE_s1 cI cZ ad S rest f67) ?_
  refine x_locals (lv' := [(0, .ref (ad 0)), (2, .int x2)]) [0, 2] rfl ?_
  exact X_X4_putInOrder_b70 C h
def X4_putInOrder_b55 (S : St) (x1 x2 : Int32) : Option ((St × Int32 × Int32) ⊕ (Int32 × St)) :=
  some (.inl (S, x1, x2 + (-1)))
set_option maxHeartbeats 4000000 in
set_option maxRecDepth 100000 in
theorem X_X4_putInOrder_b55 {p : Program} {l : Launch} {e : Env} {s : State} {m : MethodId} {args : Array Value} {below : List Frame} {meth : Method} {c : Code} {D : va_G} {cI cZ cJ : ClassId} {ad : Nat → Nat} {rest w0 : va_W} (C : XC p rm_X4_putInOrder s m args meth c cX4_putInOrder 3 (some .int) RX4 wsX4_putInOrder D (t3 cI cZ cJ)) {S : St} {x1 x2 : Int32} {z : (St × Int32 × Int32) ⊕ (Int32 × St)} {r : Int32 × St} (h : X4_putInOrder_b55 S x1 x2 = some z) (hk : ∀ a' : (St × Int32 × Int32), z = .inl a' → XW p l e rm_X4_putInOrder s m args below meth c D w0 3 (MQ below (QI D (t3 cI cZ cJ) w0 (wE cI cZ ad r.2 rest) s.heap.size r.1) args s 0 0 (va_A w0 s.heap.size)) (wE cI cZ ad a'.1 rest) 0 0 5 [(0, .ref (ad 0)), (1, .int a'.2.1), (2, .int a'.2.2)] []) (hr : ∀ r', z = .inr r' → r' = r) : XW p l e rm_X4_putInOrder s m args below meth c D w0 3 (MQ below (QI D (t3 cI cZ cJ) w0 (wE cI cZ ad r.2 rest) s.heap.size r.1) args s 0 0 (va_A w0 s.heap.size)) (wE cI cZ ad S rest) 0 0 55 [(0, .ref (ad 0)), (1, .int x1), (2, .int x2)] [] := by
  unfold X4_putInOrder_b55 at h
  refine x_iinc C (v := x2 + (-1)) (lv' := [(0, .ref (ad 0)), (1, .int x1), (2, .int (x2 + (-1)))]) 2 dX4_putInOrder_55 rfl rfl (by decide) rfl ?_
  refine x_goto C (t := 5) dX4_putInOrder_58 (by decide) ?_
  exact hk _ (Option.some.inj h).symm
def X4_putInOrder_H5 (S : St) (x1 x2 : Int32) : Option ((St × Int32 × Int32) ⊕ (Int32 × St)) :=
  if x2 ≤ 0 then (exI (X4_putInOrder_b61 S x1 x2)) else ((X5_at 40 (S 1) (x2 - 1)).bind fun v20 => (X2_stampAt S v20).bind fun v23 => (X2_stampAt S x1).bind fun v31 => if v23 ≤ v31 then (exI (X4_putInOrder_b61 S x1 x2)) else ((X5_at 40 (S 1) (x2 - 1)).bind fun v49 => (X5_put 40 (S 1) x2 v49).bind fun f52 => X4_putInOrder_b55 (up S 1 f52) x1 x2))
set_option maxHeartbeats 4000000 in
set_option maxRecDepth 100000 in
theorem X_X4_putInOrder_H5 {p : Program} {l : Launch} {e : Env} {s : State} {m : MethodId} {args : Array Value} {below : List Frame} {meth : Method} {c : Code} {D : va_G} {cI cZ cJ : ClassId} {ad : Nat → Nat} {rest w0 : va_W} (C : XC p rm_X4_putInOrder s m args meth c cX4_putInOrder 3 (some .int) RX4 wsX4_putInOrder D (t3 cI cZ cJ)) {S : St} {x1 x2 : Int32} {z : (St × Int32 × Int32) ⊕ (Int32 × St)} {r : Int32 × St} (h : X4_putInOrder_H5 S x1 x2 = some z) (hk : ∀ a' : (St × Int32 × Int32), z = .inl a' → XW p l e rm_X4_putInOrder s m args below meth c D w0 3 (MQ below (QI D (t3 cI cZ cJ) w0 (wE cI cZ ad r.2 rest) s.heap.size r.1) args s 0 0 (va_A w0 s.heap.size)) (wE cI cZ ad a'.1 rest) 0 0 5 [(0, .ref (ad 0)), (1, .int a'.2.1), (2, .int a'.2.2)] []) (hr : ∀ r', z = .inr r' → r' = r) : XW p l e rm_X4_putInOrder s m args below meth c D w0 3 (MQ below (QI D (t3 cI cZ cJ) w0 (wE cI cZ ad r.2 rest) s.heap.size r.1) args s 0 0 (va_A w0 s.heap.size)) (wE cI cZ ad S rest) 0 0 5 [(0, .ref (ad 0)), (1, .int x1), (2, .int x2)] [] := by
  unfold X4_putInOrder_H5 at h
  refine x_iload_n C 2 dX4_putInOrder_5 rfl ?_
  refine x_if_le C (t := 61) dX4_putInOrder_6 (by decide) (fun c6 => ?_) (fun c6 => ?_)
  · replace h := (if_pos c6).symm.trans h
    obtain ⟨r1, h1, h2⟩ := exI_some h
    obtain rfl := hr r1 h2
    exact X_X4_putInOrder_b61 C h1
  · replace h := (if_neg c6).symm.trans h
    refine x_aload_n C 0 dX4_putInOrder_9 rfl ?_
    refine x_get C (R' := RX4) (T := TX4) (N := 11) (ci := 4) 0 1 rfl rfl (by decide) rfl rfl hi_X4_putInOrder_4 lk_X4_putInOrder_35 dX4_putInOrder_10 ?_
    refine x_aload_n C 0 dX4_putInOrder_13 rfl ?_
    refine x_get C (R' := RX4) (T := TX4) (N := 11) (ci := 4) 0 3 rfl rfl (by decide) rfl rfl hi_X4_putInOrder_4 lk_X4_putInOrder_9 dX4_putInOrder_14 ?_
    refine x_iload_n C 2 dX4_putInOrder_17 rfl ?_
    refine x_iconst C (v := 1) dX4_putInOrder_18 (by decide) ?_
    refine x_isub C dX4_putInOrder_19 ?_
    obtain ⟨v20, hg20, h⟩ := ob h
    refine x_ci0 (x_runSN C (As := [.ref (ad 1), .int (x2 - 1)]) (rest := [.ref (ad 14)]) (c_X5_at 1 rfl hg20) (cw_X4_putInOrder_X5_at_58 C) rfl (Nat.le_of_ble_eq_true rfl) dX4_putInOrder_20 ⟨Nat.zero_le _, Nat.zero_le _⟩) ?_
    obtain ⟨v23, hg23, h⟩ := ob h
    refine x_ci0 (x_runV C (As := [.int v20]) (rest := []) (c_X2_stampAt hg23) (cw_X4_putInOrder_X2_stampAt_79 C) 14 rfl rfl rfl (Nat.le_of_ble_eq_true rfl) dX4_putInOrder_23 ⟨Nat.zero_le _, Nat.zero_le _⟩) ?_
    refine x_aload_n C 0 dX4_putInOrder_26 rfl ?_
    refine x_get C (R' := RX4) (T := TX4) (N := 11) (ci := 4) 0 1 rfl rfl (by decide) rfl rfl hi_X4_putInOrder_4 lk_X4_putInOrder_35 dX4_putInOrder_27 ?_
    refine x_iload_n C 1 dX4_putInOrder_30 rfl ?_
    obtain ⟨v31, hg31, h⟩ := ob h
    refine x_ci0 (x_runV C (As := [.int x1]) (rest := [.int v23]) (c_X2_stampAt hg31) (cw_X4_putInOrder_X2_stampAt_79 C) 14 rfl rfl rfl (Nat.le_of_ble_eq_true rfl) dX4_putInOrder_31 ⟨Nat.zero_le _, Nat.zero_le _⟩) ?_
    refine x_icmp_le C (t := 61) dX4_putInOrder_34 (by decide) (fun c34 => ?_) (fun c34 => ?_)
    · replace h := (if_pos c34).symm.trans h
      obtain ⟨r1, h1, h2⟩ := exI_some h
      obtain rfl := hr r1 h2
      exact X_X4_putInOrder_b61 C h1
    · replace h := (if_neg c34).symm.trans h
      refine x_aload_n C 0 dX4_putInOrder_37 rfl ?_
      refine x_get C (R' := RX4) (T := TX4) (N := 11) (ci := 4) 0 3 rfl rfl (by decide) rfl rfl hi_X4_putInOrder_4 lk_X4_putInOrder_9 dX4_putInOrder_38 ?_
      refine x_iload_n C 2 dX4_putInOrder_41 rfl ?_
      refine x_aload_n C 0 dX4_putInOrder_42 rfl ?_
      refine x_get C (R' := RX4) (T := TX4) (N := 11) (ci := 4) 0 3 rfl rfl (by decide) rfl rfl hi_X4_putInOrder_4 lk_X4_putInOrder_9 dX4_putInOrder_43 ?_
      refine x_iload_n C 2 dX4_putInOrder_46 rfl ?_
      refine x_iconst C (v := 1) dX4_putInOrder_47 (by decide) ?_
      refine x_isub C dX4_putInOrder_48 ?_
      obtain ⟨v49, hg49, h⟩ := ob h
      refine x_ci0 (x_runSN C (As := [.ref (ad 1), .int (x2 - 1)]) (rest := [.int x2, .ref (ad 1)]) (c_X5_at 1 rfl hg49) (cw_X4_putInOrder_X5_at_58 C) rfl (Nat.le_of_ble_eq_true rfl) dX4_putInOrder_49 ⟨Nat.zero_le _, Nat.zero_le _⟩) ?_
      obtain ⟨f52, hg52, h⟩ := ob h
      refine x_cv0 (x_runSN C (As := [.ref (ad 1), .int x2, .int v49]) (rest := []) (c_X5_put 1 rfl hg52) (cw_X4_putInOrder_X5_put_82 C) rfl (Nat.le_of_ble_eq_true rfl) dX4_putInOrder_52 ⟨Nat.zero_le _, Nat.zero_le _⟩) ?_
      refine x_eqw (wE_s1 cI cZ ad S rest f52) ?_
      exact X_X4_putInOrder_b55 C h hk hr
def X4_putInOrder_L5 (S : St) (x1 x2 : Int32) : Option (Int32 × St) := wloop (fun a' : (St × Int32 × Int32) => X4_putInOrder_H5 a'.1 a'.2.1 a'.2.2) 1000 (S, x1, x2)
set_option maxHeartbeats 4000000 in
set_option maxRecDepth 100000 in
theorem X_X4_putInOrder_L5 {p : Program} {l : Launch} {e : Env} {s : State} {m : MethodId} {args : Array Value} {below : List Frame} {meth : Method} {c : Code} {D : va_G} {cI cZ cJ : ClassId} {ad : Nat → Nat} {rest w0 : va_W} (C : XC p rm_X4_putInOrder s m args meth c cX4_putInOrder 3 (some .int) RX4 wsX4_putInOrder D (t3 cI cZ cJ)) {S : St} {x1 x2 : Int32} {r : Int32 × St} (h : X4_putInOrder_L5 S x1 x2 = some r) : XW p l e rm_X4_putInOrder s m args below meth c D w0 3 (MQ below (QI D (t3 cI cZ cJ) w0 (wE cI cZ ad r.2 rest) s.heap.size r.1) args s 0 0 (va_A w0 s.heap.size)) (wE cI cZ ad S rest) 0 0 5 [(0, .ref (ad 0)), (1, .int x1), (2, .int x2)] [] :=
  wloop_met (P := (fun a' : (St × Int32 × Int32) => XW p l e rm_X4_putInOrder s m args below meth c D w0 3 (MQ below (QI D (t3 cI cZ cJ) w0 (wE cI cZ ad r.2 rest) s.heap.size r.1) args s 0 0 (va_A w0 s.heap.size)) (wE cI cZ ad a'.1 rest) 0 0 5 [(0, .ref (ad 0)), (1, .int a'.2.1), (2, .int a'.2.2)] [])) (fun _ _ hz hk hr => X_X4_putInOrder_H5 C hz hk hr) 1000 (S, x1, x2) h
def X4_putInOrder (S : St) (x1 : Int32) : Option (Int32 × St) :=
  X4_putInOrder_L5 S x1 (S 0 4)
set_option maxHeartbeats 4000000 in
set_option maxRecDepth 100000 in
theorem X_X4_putInOrder {p : Program} {l : Launch} {e : Env} {s : State} {m : MethodId} {args : Array Value} {below : List Frame} {meth : Method} {c : Code} {D : va_G} {cI cZ cJ : ClassId} {ad : Nat → Nat} {rest w0 : va_W} (C : XC p rm_X4_putInOrder s m args meth c cX4_putInOrder 3 (some .int) RX4 wsX4_putInOrder D (t3 cI cZ cJ)) {S : St} {x1 : Int32} {r : Int32 × St} (h : X4_putInOrder S x1 = some r) : XW p l e rm_X4_putInOrder s m args below meth c D w0 3 (MQ below (QI D (t3 cI cZ cJ) w0 (wE cI cZ ad r.2 rest) s.heap.size r.1) args s 0 0 (va_A w0 s.heap.size)) (wE cI cZ ad S rest) 0 0 0 [(0, .ref (ad 0)), (1, .int x1)] [] := by
  unfold X4_putInOrder at h
  refine x_aload_n C 0 dX4_putInOrder_0 rfl ?_
  refine x_get C (R' := RX4) (T := TX4) (N := 11) (ci := 4) 0 4 rfl rfl (by decide) rfl rfl hi_X4_putInOrder_4 lk_X4_putInOrder_55 dX4_putInOrder_1 ?_
  refine x_istore_n C (lv' := [(0, .ref (ad 0)), (1, .int x1), (2, .int (S 0 4))]) dX4_putInOrder_4 (by decide) rfl ?_
  exact X_X4_putInOrder_L5 C h
set_option maxRecDepth 100000 in
theorem c_X4_putInOrder {l : Launch} {D : va_G} {cI cZ cJ : ClassId} {ad : Nat → Nat} {S : St} {rest : va_W} {x1 : Int32} {r : Int32 × St} (h : X4_putInOrder S x1 = some r) : ∀ sz, Met l yX4_putInOrder wsX4_putInOrder rm_X4_putInOrder (PC D (t3 cI cZ cJ) [.ref (ad 0), .int x1] (wE cI cZ ad S rest) sz) (QI D (t3 cI cZ cJ) (wE cI cZ ad S rest) (wE cI cZ ad r.2 rest) sz r.1) 0 0 (va_A (wE cI cZ ad S rest) sz) := by
  refine x_met (Qc := fun sz => QI D (t3 cI cZ cJ) (wE cI cZ ad S rest) (wE cI cZ ad r.2 rest) sz r.1) RX4 rfl (by decide) rfl (Nat.le_of_ble_eq_true rfl) (fun p e s m args below meth c C => ?_)
  exact X_X4_putInOrder C h
/-! EntryMasters$Tree.has(I)Z -/
abbrev rm_X4_has : Room := { frames := 0, cells := 0, slots := 0, locals := 0 }
theorem hi_X4_has_4 : ∀ z ∈ u_ws RX4 TX4 11, z ∈ wsX4_has := by decide +kernel
theorem lk_X4_has_15 : Cond.fieldLink RX4 15 RX4 "there" "[Z" ∈ wsX4_has := by decide +kernel
def X4_has_b24 (S : St) (s0 : Int32) : Option (Int32) :=
  if s0 &&& 1 = s0 then (some s0) else none
set_option maxHeartbeats 4000000 in
set_option maxRecDepth 100000 in
theorem X_X4_has_b24 {p : Program} {l : Launch} {e : Env} {s : State} {m : MethodId} {args : Array Value} {below : List Frame} {meth : Method} {c : Code} {D : va_G} {cI cZ cJ : ClassId} {ad : Nat → Nat} {rest w0 : va_W} (C : XC p rm_X4_has s m args meth c cX4_has 2 (some .boolean) RX4 wsX4_has D (t3 cI cZ cJ)) {S : St} {s0 : Int32} {r : Int32} (h : X4_has_b24 S s0 = some r) : XW p l e rm_X4_has s m args below meth c D w0 2 (MQ below (QI D (t3 cI cZ cJ) w0 (wE cI cZ ad S rest) s.heap.size r) args s 0 0 (va_A w0 s.heap.size)) (wE cI cZ ad S rest) 0 0 24 [] [.int s0] := by
  unfold X4_has_b24 at h
  obtain ⟨g24, h⟩ := gd h
  obtain rfl := Option.some.inj h
  exact x_zret C g24 dX4_has_24
def X4_has_b23 (S : St) : Option (Int32) :=
  X4_has_b24 S 0
set_option maxHeartbeats 4000000 in
set_option maxRecDepth 100000 in
theorem X_X4_has_b23 {p : Program} {l : Launch} {e : Env} {s : State} {m : MethodId} {args : Array Value} {below : List Frame} {meth : Method} {c : Code} {D : va_G} {cI cZ cJ : ClassId} {ad : Nat → Nat} {rest w0 : va_W} (C : XC p rm_X4_has s m args meth c cX4_has 2 (some .boolean) RX4 wsX4_has D (t3 cI cZ cJ)) {S : St} {r : Int32} (h : X4_has_b23 S = some r) : XW p l e rm_X4_has s m args below meth c D w0 2 (MQ below (QI D (t3 cI cZ cJ) w0 (wE cI cZ ad S rest) s.heap.size r) args s 0 0 (va_A w0 s.heap.size)) (wE cI cZ ad S rest) 0 0 23 [] [] := by
  unfold X4_has_b23 at h
  refine x_iconst C (v := 0) dX4_has_23 (by decide) ?_
  exact X_X4_has_b24 C h
def X4_has (S : St) (x1 : Int32) : Option (Int32) :=
  if x1 < 0 then (X4_has_b23 S) else (if 42 ≤ x1 then (X4_has_b23 S) else (if inB x1 42 then (if (S 2 x1.toNatClampNeg) = 0 then (X4_has_b23 S) else (X4_has_b24 S 1)) else none))
set_option maxHeartbeats 4000000 in
set_option maxRecDepth 100000 in
theorem X_X4_has {p : Program} {l : Launch} {e : Env} {s : State} {m : MethodId} {args : Array Value} {below : List Frame} {meth : Method} {c : Code} {D : va_G} {cI cZ cJ : ClassId} {ad : Nat → Nat} {rest w0 : va_W} (C : XC p rm_X4_has s m args meth c cX4_has 2 (some .boolean) RX4 wsX4_has D (t3 cI cZ cJ)) {S : St} {x1 : Int32} {r : Int32} (h : X4_has S x1 = some r) : XW p l e rm_X4_has s m args below meth c D w0 2 (MQ below (QI D (t3 cI cZ cJ) w0 (wE cI cZ ad S rest) s.heap.size r) args s 0 0 (va_A w0 s.heap.size)) (wE cI cZ ad S rest) 0 0 0 [(0, .ref (ad 0)), (1, .int x1)] [] := by
  unfold X4_has at h
  refine x_iload_n C 1 dX4_has_0 rfl ?_
  refine x_if_lt C (t := 23) dX4_has_1 (by decide) (fun c1 => ?_) (fun c1 => ?_)
  · replace h := (if_pos c1).symm.trans h
    refine x_locals (lv' := []) [] rfl ?_
    exact X_X4_has_b23 C h
  · replace h := (if_neg c1).symm.trans h
    refine x_iload_n C 1 dX4_has_4 rfl ?_
    refine x_bipush C (v := 42) dX4_has_5 (by decide) ?_
    refine x_icmp_ge C (t := 23) dX4_has_7 (by decide) (fun c7 => ?_) (fun c7 => ?_)
    · replace h := (if_pos c7).symm.trans h
      refine x_locals (lv' := []) [] rfl ?_
      exact X_X4_has_b23 C h
    · replace h := (if_neg c7).symm.trans h
      refine x_aload_n C 0 dX4_has_10 rfl ?_
      refine x_get C (R' := RX4) (T := TX4) (N := 11) (ci := 4) 0 5 rfl rfl (by decide) rfl rfl hi_X4_has_4 lk_X4_has_15 dX4_has_11 ?_
      refine x_iload_n C 1 dX4_has_14 rfl ?_
      obtain ⟨g15, h⟩ := gdB h
      refine x_zald C 2 rfl g15 dX4_has_15 ?_
      refine x_if_eq C (t := 23) dX4_has_16 (by decide) (fun c16 => ?_) (fun c16 => ?_)
      · replace h := (if_pos c16).symm.trans h
        refine x_locals (lv' := []) [] rfl ?_
        exact X_X4_has_b23 C h
      · replace h := (if_neg c16).symm.trans h
        refine x_iconst C (v := 1) dX4_has_19 (by decide) ?_
        refine x_goto C (t := 24) dX4_has_20 (by decide) ?_
        refine x_locals (lv' := []) [] rfl ?_
        exact X_X4_has_b24 C h
set_option maxRecDepth 100000 in
theorem c_X4_has {l : Launch} {D : va_G} {cI cZ cJ : ClassId} {ad : Nat → Nat} {S : St} {rest : va_W} {x1 : Int32} {r : Int32} (h : X4_has S x1 = some r) : ∀ sz, Met l yX4_has wsX4_has rm_X4_has (PC D (t3 cI cZ cJ) [.ref (ad 0), .int x1] (wE cI cZ ad S rest) sz) (QI D (t3 cI cZ cJ) (wE cI cZ ad S rest) (wE cI cZ ad S rest) sz r) 0 0 (va_A (wE cI cZ ad S rest) sz) := by
  refine x_met (Qc := fun sz => QI D (t3 cI cZ cJ) (wE cI cZ ad S rest) (wE cI cZ ad S rest) sz r) RX4 rfl (by decide) rfl (Nat.le_of_ble_eq_true rfl) (fun p e s m args below meth c C => ?_)
  exact X_X4_has C h
/-! EntryMasters$Tree.areLike(II)Z -/
abbrev rm_X4_areLike : Room := { frames := 0, cells := 0, slots := 0, locals := 0 }
def X4_areLike_b26  (s0 : Int32) : Option (Int32) :=
  if s0 &&& 1 = s0 then (some s0) else none
set_option maxHeartbeats 4000000 in
set_option maxRecDepth 100000 in
theorem X_X4_areLike_b26 {p : Program} {l : Launch} {e : Env} {s : State} {m : MethodId} {args : Array Value} {below : List Frame} {meth : Method} {c : Code} {D : va_G} {cI cZ cJ : ClassId} {w w0 : va_W} (C : XC p rm_X4_areLike s m args meth c cX4_areLike 2 (some .boolean) RX4 wsX4_areLike D (t3 cI cZ cJ)) {s0 : Int32} {r : Int32} (h : X4_areLike_b26 s0 = some r) : XW p l e rm_X4_areLike s m args below meth c D w0 2 (MQ below (QI D (t3 cI cZ cJ) w0 w s.heap.size r) args s 0 0 (va_A w0 s.heap.size)) w 0 0 26 [] [.int s0] := by
  unfold X4_areLike_b26 at h
  obtain ⟨g26, h⟩ := gd h
  obtain rfl := Option.some.inj h
  exact x_zret C g26 dX4_areLike_26
def X4_areLike_b25  : Option (Int32) :=
  X4_areLike_b26 0
set_option maxHeartbeats 4000000 in
set_option maxRecDepth 100000 in
theorem X_X4_areLike_b25 {p : Program} {l : Launch} {e : Env} {s : State} {m : MethodId} {args : Array Value} {below : List Frame} {meth : Method} {c : Code} {D : va_G} {cI cZ cJ : ClassId} {w w0 : va_W} (C : XC p rm_X4_areLike s m args meth c cX4_areLike 2 (some .boolean) RX4 wsX4_areLike D (t3 cI cZ cJ)) {r : Int32} (h : X4_areLike_b25  = some r) : XW p l e rm_X4_areLike s m args below meth c D w0 2 (MQ below (QI D (t3 cI cZ cJ) w0 w s.heap.size r) args s 0 0 (va_A w0 s.heap.size)) w 0 0 25 [] [] := by
  unfold X4_areLike_b25 at h
  refine x_iconst C (v := 0) dX4_areLike_25 (by decide) ?_
  exact X_X4_areLike_b26 C h
def X4_areLike  (x0 x1 : Int32) : Option (Int32) :=
  if x0 = (-1) then (X4_areLike_b25) else (if x1 = (-1) then (X4_areLike_b25) else (if (x0 - x0 / 50 * 50) = (x1 - x1 / 50 * 50) then (X4_areLike_b26 1) else (X4_areLike_b25)))
set_option maxHeartbeats 4000000 in
set_option maxRecDepth 100000 in
theorem X_X4_areLike {p : Program} {l : Launch} {e : Env} {s : State} {m : MethodId} {args : Array Value} {below : List Frame} {meth : Method} {c : Code} {D : va_G} {cI cZ cJ : ClassId} {w w0 : va_W} (C : XC p rm_X4_areLike s m args meth c cX4_areLike 2 (some .boolean) RX4 wsX4_areLike D (t3 cI cZ cJ)) {x0 x1 : Int32} {r : Int32} (h : X4_areLike x0 x1 = some r) : XW p l e rm_X4_areLike s m args below meth c D w0 2 (MQ below (QI D (t3 cI cZ cJ) w0 w s.heap.size r) args s 0 0 (va_A w0 s.heap.size)) w 0 0 0 [(0, .int x0), (1, .int x1)] [] := by
  unfold X4_areLike at h
  refine x_iload_n C 0 dX4_areLike_0 rfl ?_
  refine x_iconst C (v := (-1)) dX4_areLike_1 (by decide) ?_
  refine x_icmp_eq C (t := 25) dX4_areLike_2 (by decide) (fun c2 => ?_) (fun c2 => ?_)
  · replace h := (if_pos c2).symm.trans h
    refine x_locals (lv' := []) [] rfl ?_
    exact X_X4_areLike_b25 C h
  · replace h := (if_neg c2).symm.trans h
    refine x_iload_n C 1 dX4_areLike_5 rfl ?_
    refine x_iconst C (v := (-1)) dX4_areLike_6 (by decide) ?_
    refine x_icmp_eq C (t := 25) dX4_areLike_7 (by decide) (fun c7 => ?_) (fun c7 => ?_)
    · replace h := (if_pos c7).symm.trans h
      refine x_locals (lv' := []) [] rfl ?_
      exact X_X4_areLike_b25 C h
    · replace h := (if_neg c7).symm.trans h
      refine x_iload_n C 0 dX4_areLike_10 rfl ?_
      refine x_bipush C (v := 50) dX4_areLike_11 (by decide) ?_
      refine x_irem C dX4_areLike_13 (by decide) ?_
      refine x_iload_n C 1 dX4_areLike_14 rfl ?_
      refine x_bipush C (v := 50) dX4_areLike_15 (by decide) ?_
      refine x_irem C dX4_areLike_17 (by decide) ?_
      refine x_icmp_ne C (t := 25) dX4_areLike_18 (by decide) (fun c18 => ?_) (fun c18 => ?_)
      · replace h := (if_neg c18).symm.trans h
        refine x_locals (lv' := []) [] rfl ?_
        exact X_X4_areLike_b25 C h
      · replace h := (if_pos c18).symm.trans h
        refine x_iconst C (v := 1) dX4_areLike_21 (by decide) ?_
        refine x_goto C (t := 26) dX4_areLike_22 (by decide) ?_
        refine x_locals (lv' := []) [] rfl ?_
        exact X_X4_areLike_b26 C h
set_option maxRecDepth 100000 in
theorem c_X4_areLike {l : Launch} {D : va_G} {cI cZ cJ : ClassId} {w : va_W} {x0 x1 : Int32} {r : Int32} (h : X4_areLike x0 x1 = some r) : ∀ sz, Met l yX4_areLike wsX4_areLike rm_X4_areLike (PC D (t3 cI cZ cJ) [.int x0, .int x1] w sz) (QI D (t3 cI cZ cJ) w w sz r) 0 0 (va_A w sz) := by
  refine x_met (Qc := fun sz => QI D (t3 cI cZ cJ) w w sz r) RX4 rfl (by decide) rfl (Nat.le_of_ble_eq_true rfl) (fun p e s m args below meth c C => ?_)
  exact X_X4_areLike C h
/-! EntryMasters$Tree.childWithLabelLike(III)I -/
abbrev rm_X4_childWithLabelLike : Room := { frames := 1, cells := 0, slots := 0, locals := 21 }
theorem hi_X4_childWithLabelLike_4 : ∀ z ∈ u_ws RX4 TX4 11, z ∈ wsX4_childWithLabelLike := by decide +kernel
theorem lk_X4_childWithLabelLike_19 : Cond.fieldLink RX4 19 RX4 "parents" "[I" ∈ wsX4_childWithLabelLike := by decide +kernel
theorem lk_X4_childWithLabelLike_22 : Cond.fieldLink RX4 22 RX4 "labels" "[I" ∈ wsX4_childWithLabelLike := by decide +kernel
theorem cw_X4_childWithLabelLike_X4_areLike_148 {p : Program} {s : State} {m : MethodId} {args : Array Value} {meth : Method} {c : Code} {D : va_G} {tys : List (ClassId × FieldType)} {R : Room} (C : XC p R s m args meth c cX4_childWithLabelLike 5 (some .int) RX4 wsX4_childWithLabelLike D tys) : CallB rm_X4_childWithLabelLike s args RX4 148 yX4_areLike cX4_areLike 2 (some .boolean) wsX4_areLike rm_X4_areLike 0 0 2 ∧ (Cond.static yX4_areLike).before args s = true := va_cwS 2 C.2.2.2.2.1 gX4_childWithLabelLike_X4_areLike rfl rfl rfl (by decide +kernel) ⟨Nat.le_of_ble_eq_true rfl, Nat.le_of_ble_eq_true rfl⟩
def X4_childWithLabelLike_b50 (S : St) : Option (Int32) :=
  some (-1)
set_option maxHeartbeats 4000000 in
set_option maxRecDepth 100000 in
theorem X_X4_childWithLabelLike_b50 {p : Program} {l : Launch} {e : Env} {s : State} {m : MethodId} {args : Array Value} {below : List Frame} {meth : Method} {c : Code} {D : va_G} {cI cZ cJ : ClassId} {ad : Nat → Nat} {rest w0 : va_W} (C : XC p rm_X4_childWithLabelLike s m args meth c cX4_childWithLabelLike 5 (some .int) RX4 wsX4_childWithLabelLike D (t3 cI cZ cJ)) {S : St} {r : Int32} (h : X4_childWithLabelLike_b50 S = some r) : XW p l e rm_X4_childWithLabelLike s m args below meth c D w0 5 (MQ below (QI D (t3 cI cZ cJ) w0 (wE cI cZ ad S rest) s.heap.size r) args s 0 0 (va_A w0 s.heap.size)) (wE cI cZ ad S rest) 0 0 50 [] [] := by
  unfold X4_childWithLabelLike_b50 at h
  refine x_iconst C (v := (-1)) dX4_childWithLabelLike_50 (by decide) ?_
  obtain rfl := Option.some.inj h
  exact x_iret C dX4_childWithLabelLike_51
def X4_childWithLabelLike_b44 (S : St) (x1 x2 x3 x4 : Int32) : Option ((Int32 × Int32 × Int32 × Int32) ⊕ (Int32)) :=
  some (.inl (x1, x2, x3, x4 + 1))
set_option maxHeartbeats 4000000 in
set_option maxRecDepth 100000 in
theorem X_X4_childWithLabelLike_b44 {p : Program} {l : Launch} {e : Env} {s : State} {m : MethodId} {args : Array Value} {below : List Frame} {meth : Method} {c : Code} {D : va_G} {cI cZ cJ : ClassId} {ad : Nat → Nat} {rest w0 : va_W} (C : XC p rm_X4_childWithLabelLike s m args meth c cX4_childWithLabelLike 5 (some .int) RX4 wsX4_childWithLabelLike D (t3 cI cZ cJ)) {S : St} {x1 x2 x3 x4 : Int32} {z : (Int32 × Int32 × Int32 × Int32) ⊕ (Int32)} {r : Int32} (h : X4_childWithLabelLike_b44 S x1 x2 x3 x4 = some z) (hk : ∀ a' : (Int32 × Int32 × Int32 × Int32), z = .inl a' → XW p l e rm_X4_childWithLabelLike s m args below meth c D w0 5 (MQ below (QI D (t3 cI cZ cJ) w0 (wE cI cZ ad S rest) s.heap.size r) args s 0 0 (va_A w0 s.heap.size)) (wE cI cZ ad S rest) 0 0 3 [(0, .ref (ad 0)), (1, .int a'.1), (2, .int a'.2.1), (3, .int a'.2.2.1), (4, .int a'.2.2.2)] []) (hr : ∀ r', z = .inr r' → r' = r) : XW p l e rm_X4_childWithLabelLike s m args below meth c D w0 5 (MQ below (QI D (t3 cI cZ cJ) w0 (wE cI cZ ad S rest) s.heap.size r) args s 0 0 (va_A w0 s.heap.size)) (wE cI cZ ad S rest) 0 0 44 [(0, .ref (ad 0)), (1, .int x1), (2, .int x2), (3, .int x3), (4, .int x4)] [] := by
  unfold X4_childWithLabelLike_b44 at h
  refine x_iinc C (v := x4 + 1) (lv' := [(0, .ref (ad 0)), (1, .int x1), (2, .int x2), (3, .int x3), (4, .int (x4 + 1))]) 4 dX4_childWithLabelLike_44 rfl rfl (by decide) rfl ?_
  refine x_goto C (t := 3) dX4_childWithLabelLike_47 (by decide) ?_
  exact hk _ (Option.some.inj h).symm
def X4_childWithLabelLike_b41 (S : St) (x4 : Int32) : Option (Int32) :=
  some x4
set_option maxHeartbeats 4000000 in
set_option maxRecDepth 100000 in
theorem X_X4_childWithLabelLike_b41 {p : Program} {l : Launch} {e : Env} {s : State} {m : MethodId} {args : Array Value} {below : List Frame} {meth : Method} {c : Code} {D : va_G} {cI cZ cJ : ClassId} {ad : Nat → Nat} {rest w0 : va_W} (C : XC p rm_X4_childWithLabelLike s m args meth c cX4_childWithLabelLike 5 (some .int) RX4 wsX4_childWithLabelLike D (t3 cI cZ cJ)) {S : St} {x4 : Int32} {r : Int32} (h : X4_childWithLabelLike_b41 S x4 = some r) : XW p l e rm_X4_childWithLabelLike s m args below meth c D w0 5 (MQ below (QI D (t3 cI cZ cJ) w0 (wE cI cZ ad S rest) s.heap.size r) args s 0 0 (va_A w0 s.heap.size)) (wE cI cZ ad S rest) 0 0 41 [(4, .int x4)] [] := by
  unfold X4_childWithLabelLike_b41 at h
  refine x_iload C 0 dX4_childWithLabelLike_41 rfl ?_
  obtain rfl := Option.some.inj h
  exact x_iret C dX4_childWithLabelLike_43
def X4_childWithLabelLike_H3 (S : St) (x1 x2 x3 x4 : Int32) : Option ((Int32 × Int32 × Int32 × Int32) ⊕ (Int32)) :=
  if 42 ≤ x4 then (exI (X4_childWithLabelLike_b50 S)) else (if inB x4 42 then (if (S 3 x4.toNatClampNeg) = x1 then (if x4 = x3 then (X4_childWithLabelLike_b44 S x1 x2 x3 x4) else (if inB x4 42 then ((X4_areLike (S 4 x4.toNatClampNeg) x2).bind fun v35 => if v35 = 0 then (X4_childWithLabelLike_b44 S x1 x2 x3 x4) else (exI (X4_childWithLabelLike_b41 S x4))) else none)) else (X4_childWithLabelLike_b44 S x1 x2 x3 x4)) else none)
set_option maxHeartbeats 4000000 in
set_option maxRecDepth 100000 in
theorem X_X4_childWithLabelLike_H3 {p : Program} {l : Launch} {e : Env} {s : State} {m : MethodId} {args : Array Value} {below : List Frame} {meth : Method} {c : Code} {D : va_G} {cI cZ cJ : ClassId} {ad : Nat → Nat} {rest w0 : va_W} (C : XC p rm_X4_childWithLabelLike s m args meth c cX4_childWithLabelLike 5 (some .int) RX4 wsX4_childWithLabelLike D (t3 cI cZ cJ)) {S : St} {x1 x2 x3 x4 : Int32} {z : (Int32 × Int32 × Int32 × Int32) ⊕ (Int32)} {r : Int32} (h : X4_childWithLabelLike_H3 S x1 x2 x3 x4 = some z) (hk : ∀ a' : (Int32 × Int32 × Int32 × Int32), z = .inl a' → XW p l e rm_X4_childWithLabelLike s m args below meth c D w0 5 (MQ below (QI D (t3 cI cZ cJ) w0 (wE cI cZ ad S rest) s.heap.size r) args s 0 0 (va_A w0 s.heap.size)) (wE cI cZ ad S rest) 0 0 3 [(0, .ref (ad 0)), (1, .int a'.1), (2, .int a'.2.1), (3, .int a'.2.2.1), (4, .int a'.2.2.2)] []) (hr : ∀ r', z = .inr r' → r' = r) : XW p l e rm_X4_childWithLabelLike s m args below meth c D w0 5 (MQ below (QI D (t3 cI cZ cJ) w0 (wE cI cZ ad S rest) s.heap.size r) args s 0 0 (va_A w0 s.heap.size)) (wE cI cZ ad S rest) 0 0 3 [(0, .ref (ad 0)), (1, .int x1), (2, .int x2), (3, .int x3), (4, .int x4)] [] := by
  unfold X4_childWithLabelLike_H3 at h
  refine x_iload C 4 dX4_childWithLabelLike_3 rfl ?_
  refine x_bipush C (v := 42) dX4_childWithLabelLike_5 (by decide) ?_
  refine x_icmp_ge C (t := 50) dX4_childWithLabelLike_7 (by decide) (fun c7 => ?_) (fun c7 => ?_)
  · replace h := (if_pos c7).symm.trans h
    refine x_locals (lv' := []) [] rfl ?_
    obtain ⟨r1, h1, h2⟩ := exI_some h
    obtain rfl := hr r1 h2
    exact X_X4_childWithLabelLike_b50 C h1
  · replace h := (if_neg c7).symm.trans h
    refine x_aload_n C 0 dX4_childWithLabelLike_10 rfl ?_
    refine x_get C (R' := RX4) (T := TX4) (N := 11) (ci := 4) 0 6 rfl rfl (by decide) rfl rfl hi_X4_childWithLabelLike_4 lk_X4_childWithLabelLike_19 dX4_childWithLabelLike_11 ?_
    refine x_iload C 4 dX4_childWithLabelLike_14 rfl ?_
    obtain ⟨g16, h⟩ := gdB h
    refine x_iald C 3 rfl g16 dX4_childWithLabelLike_16 ?_
    refine x_iload_n C 1 dX4_childWithLabelLike_17 rfl ?_
    refine x_icmp_ne C (t := 44) dX4_childWithLabelLike_18 (by decide) (fun c18 => ?_) (fun c18 => ?_)
    · replace h := (if_neg c18).symm.trans h
      exact X_X4_childWithLabelLike_b44 C h hk hr
    · replace h := (if_pos c18).symm.trans h
      refine x_iload C 4 dX4_childWithLabelLike_21 rfl ?_
      refine x_iload_n C 3 dX4_childWithLabelLike_23 rfl ?_
      refine x_icmp_eq C (t := 44) dX4_childWithLabelLike_24 (by decide) (fun c24 => ?_) (fun c24 => ?_)
      · replace h := (if_pos c24).symm.trans h
        exact X_X4_childWithLabelLike_b44 C h hk hr
      · replace h := (if_neg c24).symm.trans h
        refine x_aload_n C 0 dX4_childWithLabelLike_27 rfl ?_
        refine x_get C (R' := RX4) (T := TX4) (N := 11) (ci := 4) 0 7 rfl rfl (by decide) rfl rfl hi_X4_childWithLabelLike_4 lk_X4_childWithLabelLike_22 dX4_childWithLabelLike_28 ?_
        refine x_iload C 4 dX4_childWithLabelLike_31 rfl ?_
        obtain ⟨g33, h⟩ := gdB h
        refine x_iald C 4 rfl g33 dX4_childWithLabelLike_33 ?_
        refine x_iload_n C 2 dX4_childWithLabelLike_34 rfl ?_
        obtain ⟨v35, hg35, h⟩ := ob h
        refine x_ci0 (x_runS C (As := [.int (S 4 x4.toNatClampNeg), .int x2]) (rest := []) (c_X4_areLike hg35) (cw_X4_childWithLabelLike_X4_areLike_148 C) rfl (Nat.le_of_ble_eq_true rfl) dX4_childWithLabelLike_35 ⟨Nat.zero_le _, Nat.zero_le _⟩) ?_
        refine x_if_eq C (t := 44) dX4_childWithLabelLike_38 (by decide) (fun c38 => ?_) (fun c38 => ?_)
        · replace h := (if_pos c38).symm.trans h
          exact X_X4_childWithLabelLike_b44 C h hk hr
        · replace h := (if_neg c38).symm.trans h
          refine x_locals (lv' := [(4, .int x4)]) [4] rfl ?_
          obtain ⟨r1, h1, h2⟩ := exI_some h
          obtain rfl := hr r1 h2
          exact X_X4_childWithLabelLike_b41 C h1
def X4_childWithLabelLike_L3 (S : St) (x1 x2 x3 x4 : Int32) : Option (Int32) := wloop (fun a' : (Int32 × Int32 × Int32 × Int32) => X4_childWithLabelLike_H3 S a'.1 a'.2.1 a'.2.2.1 a'.2.2.2) 1000 (x1, x2, x3, x4)
set_option maxHeartbeats 4000000 in
set_option maxRecDepth 100000 in
theorem X_X4_childWithLabelLike_L3 {p : Program} {l : Launch} {e : Env} {s : State} {m : MethodId} {args : Array Value} {below : List Frame} {meth : Method} {c : Code} {D : va_G} {cI cZ cJ : ClassId} {ad : Nat → Nat} {rest w0 : va_W} (C : XC p rm_X4_childWithLabelLike s m args meth c cX4_childWithLabelLike 5 (some .int) RX4 wsX4_childWithLabelLike D (t3 cI cZ cJ)) {S : St} {x1 x2 x3 x4 : Int32} {r : Int32} (h : X4_childWithLabelLike_L3 S x1 x2 x3 x4 = some r) : XW p l e rm_X4_childWithLabelLike s m args below meth c D w0 5 (MQ below (QI D (t3 cI cZ cJ) w0 (wE cI cZ ad S rest) s.heap.size r) args s 0 0 (va_A w0 s.heap.size)) (wE cI cZ ad S rest) 0 0 3 [(0, .ref (ad 0)), (1, .int x1), (2, .int x2), (3, .int x3), (4, .int x4)] [] :=
  wloop_met (P := (fun a' : (Int32 × Int32 × Int32 × Int32) => XW p l e rm_X4_childWithLabelLike s m args below meth c D w0 5 (MQ below (QI D (t3 cI cZ cJ) w0 (wE cI cZ ad S rest) s.heap.size r) args s 0 0 (va_A w0 s.heap.size)) (wE cI cZ ad S rest) 0 0 3 [(0, .ref (ad 0)), (1, .int a'.1), (2, .int a'.2.1), (3, .int a'.2.2.1), (4, .int a'.2.2.2)] [])) (fun _ _ hz hk hr => X_X4_childWithLabelLike_H3 C hz hk hr) 1000 (x1, x2, x3, x4) h
def X4_childWithLabelLike (S : St) (x1 x2 x3 : Int32) : Option (Int32) :=
  X4_childWithLabelLike_L3 S x1 x2 x3 0
set_option maxHeartbeats 4000000 in
set_option maxRecDepth 100000 in
theorem X_X4_childWithLabelLike {p : Program} {l : Launch} {e : Env} {s : State} {m : MethodId} {args : Array Value} {below : List Frame} {meth : Method} {c : Code} {D : va_G} {cI cZ cJ : ClassId} {ad : Nat → Nat} {rest w0 : va_W} (C : XC p rm_X4_childWithLabelLike s m args meth c cX4_childWithLabelLike 5 (some .int) RX4 wsX4_childWithLabelLike D (t3 cI cZ cJ)) {S : St} {x1 x2 x3 : Int32} {r : Int32} (h : X4_childWithLabelLike S x1 x2 x3 = some r) : XW p l e rm_X4_childWithLabelLike s m args below meth c D w0 5 (MQ below (QI D (t3 cI cZ cJ) w0 (wE cI cZ ad S rest) s.heap.size r) args s 0 0 (va_A w0 s.heap.size)) (wE cI cZ ad S rest) 0 0 0 [(0, .ref (ad 0)), (1, .int x1), (2, .int x2), (3, .int x3)] [] := by
  unfold X4_childWithLabelLike at h
  refine x_iconst C (v := 0) dX4_childWithLabelLike_0 (by decide) ?_
  refine x_istore C (lv' := [(0, .ref (ad 0)), (1, .int x1), (2, .int x2), (3, .int x3), (4, .int 0)]) dX4_childWithLabelLike_1 (by decide) rfl ?_
  exact X_X4_childWithLabelLike_L3 C h
set_option maxRecDepth 100000 in
theorem c_X4_childWithLabelLike {l : Launch} {D : va_G} {cI cZ cJ : ClassId} {ad : Nat → Nat} {S : St} {rest : va_W} {x1 x2 x3 : Int32} {r : Int32} (h : X4_childWithLabelLike S x1 x2 x3 = some r) : ∀ sz, Met l yX4_childWithLabelLike wsX4_childWithLabelLike rm_X4_childWithLabelLike (PC D (t3 cI cZ cJ) [.ref (ad 0), .int x1, .int x2, .int x3] (wE cI cZ ad S rest) sz) (QI D (t3 cI cZ cJ) (wE cI cZ ad S rest) (wE cI cZ ad S rest) sz r) 0 0 (va_A (wE cI cZ ad S rest) sz) := by
  refine x_met (Qc := fun sz => QI D (t3 cI cZ cJ) (wE cI cZ ad S rest) (wE cI cZ ad S rest) sz r) RX4 rfl (by decide) rfl (Nat.le_of_ble_eq_true rfl) (fun p e s m args below meth c C => ?_)
  exact X_X4_childWithLabelLike C h
/-! EntryMasters$Tree.settle(II)V -/
abbrev rm_X4_settle : Room := { frames := 2, cells := 0, slots := 0, locals := 45 }
theorem hi_X4_settle_4 : ∀ z ∈ u_ws RX4 TX4 11, z ∈ wsX4_settle := by decide +kernel
theorem lk_X4_settle_19 : Cond.fieldLink RX4 19 RX4 "parents" "[I" ∈ wsX4_settle := by decide +kernel
theorem lk_X4_settle_22 : Cond.fieldLink RX4 22 RX4 "labels" "[I" ∈ wsX4_settle := by decide +kernel
theorem cw_X4_settle_X4_childWithLabelLike_130 {p : Program} {s : State} {m : MethodId} {args : Array Value} {meth : Method} {c : Code} {D : va_G} {tys : List (ClassId × FieldType)} {R : Room} (C : XC p R s m args meth c cX4_settle 4 none RX4 wsX4_settle D tys) : CallW rm_X4_settle s args RX4 RX4 130 yX4_childWithLabelLike cX4_childWithLabelLike 5 (some .int) wsX4_childWithLabelLike rm_X4_childWithLabelLike 0 0 3 := cwV 3 C.2.2.2.2.1 gX4_settle_X4_childWithLabelLike rfl rfl rfl (by decide +kernel) ⟨Nat.le_of_ble_eq_true rfl, Nat.le_of_ble_eq_true rfl⟩
theorem cw_X4_settle_X4_has_119 {p : Program} {s : State} {m : MethodId} {args : Array Value} {meth : Method} {c : Code} {D : va_G} {tys : List (ClassId × FieldType)} {R : Room} (C : XC p R s m args meth c cX4_settle 4 none RX4 wsX4_settle D tys) : CallW rm_X4_settle s args RX4 RX4 119 yX4_has cX4_has 2 (some .boolean) wsX4_has rm_X4_has 0 0 1 := cwV 1 C.2.2.2.2.1 gX4_settle_X4_has rfl rfl rfl (by decide +kernel) ⟨Nat.le_of_ble_eq_true rfl, Nat.le_of_ble_eq_true rfl⟩
def X4_settle_b53 (S : St) : Option (St) :=
  some S
set_option maxHeartbeats 4000000 in
set_option maxRecDepth 100000 in
theorem X_X4_settle_b53 {p : Program} {l : Launch} {e : Env} {s : State} {m : MethodId} {args : Array Value} {below : List Frame} {meth : Method} {c : Code} {D : va_G} {cI cZ cJ : ClassId} {ad : Nat → Nat} {rest w0 : va_W} (C : XC p rm_X4_settle s m args meth c cX4_settle 4 none RX4 wsX4_settle D (t3 cI cZ cJ)) {S : St} {r : St} (h : X4_settle_b53 S = some r) : XW p l e rm_X4_settle s m args below meth c D w0 4 (MQ below (QV D (t3 cI cZ cJ) w0 (wE cI cZ ad r rest) s.heap.size) args s 0 0 (va_A w0 s.heap.size)) (wE cI cZ ad S rest) 0 0 53 [] [] := by
  unfold X4_settle_b53 at h
  obtain rfl := Option.some.inj h
  exact x_vret C dX4_settle_53
def X4_settle_b46 (S : St) (x1 x3 : Int32) : Option (St) :=
  if inB x1 42 then (X4_settle_b53 (up S 3 (upd (S 3) x1.toNatClampNeg x3))) else none
set_option maxHeartbeats 4000000 in
set_option maxRecDepth 100000 in
theorem X_X4_settle_b46 {p : Program} {l : Launch} {e : Env} {s : State} {m : MethodId} {args : Array Value} {below : List Frame} {meth : Method} {c : Code} {D : va_G} {cI cZ cJ : ClassId} {ad : Nat → Nat} {rest w0 : va_W} (C : XC p rm_X4_settle s m args meth c cX4_settle 4 none RX4 wsX4_settle D (t3 cI cZ cJ)) {S : St} {x1 x3 : Int32} {r : St} (h : X4_settle_b46 S x1 x3 = some r) : XW p l e rm_X4_settle s m args below meth c D w0 4 (MQ below (QV D (t3 cI cZ cJ) w0 (wE cI cZ ad r rest) s.heap.size) args s 0 0 (va_A w0 s.heap.size)) (wE cI cZ ad S rest) 0 0 46 [(0, .ref (ad 0)), (1, .int x1), (3, .int x3)] [] := by
  unfold X4_settle_b46 at h
  refine x_aload_n C 0 dX4_settle_46 rfl ?_
  refine x_get C (R' := RX4) (T := TX4) (N := 11) (ci := 4) 0 6 rfl rfl (by decide) rfl rfl hi_X4_settle_4 lk_X4_settle_19 dX4_settle_47 ?_
  refine x_iload_n C 1 dX4_settle_50 rfl ?_
  refine x_iload_n C 2 dX4_settle_51 rfl ?_
  obtain ⟨g52, h⟩ := gdB h
  refine x_iast C 3 rfl g52 dX4_settle_52 (wE_s3 cI cZ ad S rest (upd (S 3) x1.toNatClampNeg x3)) ?_
  refine x_locals (lv' := []) [] rfl ?_
  exact X_X4_settle_b53 C h
def X4_settle_b22 (S : St) (x1 s0 : Int32) : Option (St) :=
  if inB x1 42 then ((X4_childWithLabelLike S s0 (S 4 x1.toNatClampNeg) x1).bind fun v32 => if v32 = (-1) then (X4_settle_b46 S x1 s0) else (if inB x1 42 then (X4_settle_b46 (up S 4 (upd (S 4) x1.toNatClampNeg (-1))) x1 s0) else none)) else none
set_option maxHeartbeats 4000000 in
set_option maxRecDepth 100000 in
theorem X_X4_settle_b22 {p : Program} {l : Launch} {e : Env} {s : State} {m : MethodId} {args : Array Value} {below : List Frame} {meth : Method} {c : Code} {D : va_G} {cI cZ cJ : ClassId} {ad : Nat → Nat} {rest w0 : va_W} (C : XC p rm_X4_settle s m args meth c cX4_settle 4 none RX4 wsX4_settle D (t3 cI cZ cJ)) {S : St} {x1 s0 : Int32} {r : St} (h : X4_settle_b22 S x1 s0 = some r) : XW p l e rm_X4_settle s m args below meth c D w0 4 (MQ below (QV D (t3 cI cZ cJ) w0 (wE cI cZ ad r rest) s.heap.size) args s 0 0 (va_A w0 s.heap.size)) (wE cI cZ ad S rest) 0 0 22 [(0, .ref (ad 0)), (1, .int x1)] [.int s0] := by
  unfold X4_settle_b22 at h
  refine x_istore_n C (lv' := [(0, .ref (ad 0)), (1, .int x1), (3, .int s0)]) dX4_settle_22 (by decide) rfl ?_
  refine x_aload_n C 0 dX4_settle_23 rfl ?_
  refine x_iload_n C 2 dX4_settle_24 rfl ?_
  refine x_aload_n C 0 dX4_settle_25 rfl ?_
  refine x_get C (R' := RX4) (T := TX4) (N := 11) (ci := 4) 0 7 rfl rfl (by decide) rfl rfl hi_X4_settle_4 lk_X4_settle_22 dX4_settle_26 ?_
  refine x_iload_n C 1 dX4_settle_29 rfl ?_
  obtain ⟨g30, h⟩ := gdB h
  refine x_iald C 4 rfl g30 dX4_settle_30 ?_
  refine x_iload_n C 1 dX4_settle_31 rfl ?_
  obtain ⟨v32, hg32, h⟩ := ob h
  refine x_ci0 (x_runV C (As := [.int s0, .int (S 4 x1.toNatClampNeg), .int x1]) (rest := []) (c_X4_childWithLabelLike hg32) (cw_X4_settle_X4_childWithLabelLike_130 C) 0 rfl rfl rfl (Nat.le_of_ble_eq_true rfl) dX4_settle_32 ⟨Nat.zero_le _, Nat.zero_le _⟩) ?_
  refine x_iconst C (v := (-1)) dX4_settle_35 (by decide) ?_
  refine x_icmp_eq C (t := 46) dX4_settle_36 (by decide) (fun c36 => ?_) (fun c36 => ?_)
  · replace h := (if_pos c36).symm.trans h
    exact X_X4_settle_b46 C h
  · replace h := (if_neg c36).symm.trans h
    refine x_aload_n C 0 dX4_settle_39 rfl ?_
    refine x_get C (R' := RX4) (T := TX4) (N := 11) (ci := 4) 0 7 rfl rfl (by decide) rfl rfl hi_X4_settle_4 lk_X4_settle_22 dX4_settle_40 ?_
    refine x_iload_n C 1 dX4_settle_43 rfl ?_
    refine x_iconst C (v := (-1)) dX4_settle_44 (by decide) ?_
    obtain ⟨g45, h⟩ := gdB h
    refine x_iast C 4 rfl g45 dX4_settle_45 (wE_s4 cI cZ ad S rest (upd (S 4) x1.toNatClampNeg (-1))) ?_
    exact X_X4_settle_b46 C h
def X4_settle (S : St) (x1 x2 : Int32) : Option (St) :=
  (X4_has S x1).bind fun v2 => if v2 = 0 then (some S) else ((X4_has S x2).bind fun v11 => if v11 = 0 then (X4_settle_b22 S x1 1) else (X4_settle_b22 S x1 x2))
set_option maxHeartbeats 4000000 in
set_option maxRecDepth 100000 in
theorem X_X4_settle {p : Program} {l : Launch} {e : Env} {s : State} {m : MethodId} {args : Array Value} {below : List Frame} {meth : Method} {c : Code} {D : va_G} {cI cZ cJ : ClassId} {ad : Nat → Nat} {rest w0 : va_W} (C : XC p rm_X4_settle s m args meth c cX4_settle 4 none RX4 wsX4_settle D (t3 cI cZ cJ)) {S : St} {x1 x2 : Int32} {r : St} (h : X4_settle S x1 x2 = some r) : XW p l e rm_X4_settle s m args below meth c D w0 4 (MQ below (QV D (t3 cI cZ cJ) w0 (wE cI cZ ad r rest) s.heap.size) args s 0 0 (va_A w0 s.heap.size)) (wE cI cZ ad S rest) 0 0 0 [(0, .ref (ad 0)), (1, .int x1), (2, .int x2)] [] := by
  unfold X4_settle at h
  refine x_aload_n C 0 dX4_settle_0 rfl ?_
  refine x_iload_n C 1 dX4_settle_1 rfl ?_
  obtain ⟨v2, hg2, h⟩ := ob h
  refine x_ci0 (x_runV C (As := [.int x1]) (rest := []) (c_X4_has hg2) (cw_X4_settle_X4_has_119 C) 0 rfl rfl rfl (Nat.le_of_ble_eq_true rfl) dX4_settle_2 ⟨Nat.zero_le _, Nat.zero_le _⟩) ?_
  refine x_if_ne C (t := 9) dX4_settle_5 (by decide) (fun c5 => ?_) (fun c5 => ?_)
  · replace h := (if_neg c5).symm.trans h
    refine x_aload_n C 0 dX4_settle_9 rfl ?_
    refine x_iload_n C 2 dX4_settle_10 rfl ?_
    obtain ⟨v11, hg11, h⟩ := ob h
    refine x_ci0 (x_runV C (As := [.int x2]) (rest := []) (c_X4_has hg11) (cw_X4_settle_X4_has_119 C) 0 rfl rfl rfl (Nat.le_of_ble_eq_true rfl) dX4_settle_11 ⟨Nat.zero_le _, Nat.zero_le _⟩) ?_
    refine x_if_eq C (t := 21) dX4_settle_14 (by decide) (fun c14 => ?_) (fun c14 => ?_)
    · replace h := (if_pos c14).symm.trans h
      refine x_iconst C (v := 1) dX4_settle_21 (by decide) ?_
      refine x_locals (lv' := [(0, .ref (ad 0)), (1, .int x1)]) [0, 1] rfl ?_
      exact X_X4_settle_b22 C h
    · replace h := (if_neg c14).symm.trans h
      refine x_iload_n C 2 dX4_settle_17 rfl ?_
      refine x_goto C (t := 22) dX4_settle_18 (by decide) ?_
      refine x_locals (lv' := [(0, .ref (ad 0)), (1, .int x1)]) [0, 1] rfl ?_
      exact X_X4_settle_b22 C h
  · replace h := (if_pos c5).symm.trans h
    obtain rfl := Option.some.inj h
    exact x_vret C dX4_settle_8
set_option maxRecDepth 100000 in
theorem c_X4_settle {l : Launch} {D : va_G} {cI cZ cJ : ClassId} {ad : Nat → Nat} {S : St} {rest : va_W} {x1 x2 : Int32} {r : St} (h : X4_settle S x1 x2 = some r) : ∀ sz, Met l yX4_settle wsX4_settle rm_X4_settle (PC D (t3 cI cZ cJ) [.ref (ad 0), .int x1, .int x2] (wE cI cZ ad S rest) sz) (QV D (t3 cI cZ cJ) (wE cI cZ ad S rest) (wE cI cZ ad r rest) sz) 0 0 (va_A (wE cI cZ ad S rest) sz) := by
  refine x_met (Qc := fun sz => QV D (t3 cI cZ cJ) (wE cI cZ ad S rest) (wE cI cZ ad r rest) sz) RX4 rfl (by decide) rfl (Nat.le_of_ble_eq_true rfl) (fun p e s m args below meth c C => ?_)
  exact X_X4_settle C h
/-! EntryMasters$Tree.performAdding(IIII)V -/
abbrev rm_X4_performAdding : Room := { frames := 3, cells := 0, slots := 0, locals := 68 }
theorem hi_X4_performAdding_4 : ∀ z ∈ u_ws RX4 TX4 11, z ∈ wsX4_performAdding := by decide +kernel
theorem lk_X4_performAdding_15 : Cond.fieldLink RX4 15 RX4 "there" "[Z" ∈ wsX4_performAdding := by decide +kernel
theorem lk_X4_performAdding_22 : Cond.fieldLink RX4 22 RX4 "labels" "[I" ∈ wsX4_performAdding := by decide +kernel
theorem lk_X4_performAdding_25 : Cond.fieldLink RX4 25 RX4 "classesOfEntries" "[I" ∈ wsX4_performAdding := by decide +kernel
theorem lk_X4_performAdding_52 : Cond.fieldLink RX4 52 RX4 "size" "I" ∈ wsX4_performAdding := by decide +kernel
theorem cw_X4_performAdding_X4_settle_115 {p : Program} {s : State} {m : MethodId} {args : Array Value} {meth : Method} {c : Code} {D : va_G} {tys : List (ClassId × FieldType)} {R : Room} (C : XC p R s m args meth c cX4_performAdding 5 none RX4 wsX4_performAdding D tys) : CallW rm_X4_performAdding s args RX4 RX4 115 yX4_settle cX4_settle 4 none wsX4_settle rm_X4_settle 0 0 2 := cwV 2 C.2.2.2.2.1 gX4_performAdding_X4_settle rfl rfl rfl (by decide +kernel) ⟨Nat.le_of_ble_eq_true rfl, Nat.le_of_ble_eq_true rfl⟩
def X4_performAdding_b10 (S : St) : Option (St) :=
  some S
set_option maxHeartbeats 4000000 in
set_option maxRecDepth 100000 in
theorem X_X4_performAdding_b10 {p : Program} {l : Launch} {e : Env} {s : State} {m : MethodId} {args : Array Value} {below : List Frame} {meth : Method} {c : Code} {D : va_G} {cI cZ cJ : ClassId} {ad : Nat → Nat} {rest w0 : va_W} (C : XC p rm_X4_performAdding s m args meth c cX4_performAdding 5 none RX4 wsX4_performAdding D (t3 cI cZ cJ)) {S : St} {r : St} (h : X4_performAdding_b10 S = some r) : XW p l e rm_X4_performAdding s m args below meth c D w0 5 (MQ below (QV D (t3 cI cZ cJ) w0 (wE cI cZ ad r rest) s.heap.size) args s 0 0 (va_A w0 s.heap.size)) (wE cI cZ ad S rest) 0 0 10 [] [] := by
  unfold X4_performAdding_b10 at h
  obtain rfl := Option.some.inj h
  exact x_vret C dX4_performAdding_10
def X4_performAdding_b49 (S : St) : Option (St) :=
  some S
set_option maxHeartbeats 4000000 in
set_option maxRecDepth 100000 in
theorem X_X4_performAdding_b49 {p : Program} {l : Launch} {e : Env} {s : State} {m : MethodId} {args : Array Value} {below : List Frame} {meth : Method} {c : Code} {D : va_G} {cI cZ cJ : ClassId} {ad : Nat → Nat} {rest w0 : va_W} (C : XC p rm_X4_performAdding s m args meth c cX4_performAdding 5 none RX4 wsX4_performAdding D (t3 cI cZ cJ)) {S : St} {r : St} (h : X4_performAdding_b49 S = some r) : XW p l e rm_X4_performAdding s m args below meth c D w0 5 (MQ below (QV D (t3 cI cZ cJ) w0 (wE cI cZ ad r rest) s.heap.size) args s 0 0 (va_A w0 s.heap.size)) (wE cI cZ ad S rest) 0 0 49 [] [] := by
  unfold X4_performAdding_b49 at h
  obtain rfl := Option.some.inj h
  exact x_vret C dX4_performAdding_49
def X4_performAdding_b43 (S : St) (x1 x2 : Int32) : Option (St) :=
  (X4_settle S x1 x2).bind fun S46 => X4_performAdding_b49 S46
set_option maxHeartbeats 4000000 in
set_option maxRecDepth 100000 in
theorem X_X4_performAdding_b43 {p : Program} {l : Launch} {e : Env} {s : State} {m : MethodId} {args : Array Value} {below : List Frame} {meth : Method} {c : Code} {D : va_G} {cI cZ cJ : ClassId} {ad : Nat → Nat} {rest w0 : va_W} (C : XC p rm_X4_performAdding s m args meth c cX4_performAdding 5 none RX4 wsX4_performAdding D (t3 cI cZ cJ)) {S : St} {x1 x2 : Int32} {r : St} (h : X4_performAdding_b43 S x1 x2 = some r) : XW p l e rm_X4_performAdding s m args below meth c D w0 5 (MQ below (QV D (t3 cI cZ cJ) w0 (wE cI cZ ad r rest) s.heap.size) args s 0 0 (va_A w0 s.heap.size)) (wE cI cZ ad S rest) 0 0 43 [(0, .ref (ad 0)), (1, .int x1), (2, .int x2)] [] := by
  unfold X4_performAdding_b43 at h
  refine x_aload_n C 0 dX4_performAdding_43 rfl ?_
  refine x_iload_n C 1 dX4_performAdding_44 rfl ?_
  refine x_iload_n C 2 dX4_performAdding_45 rfl ?_
  obtain ⟨S46, hg46, h⟩ := ob h
  refine x_cv0 (x_runV C (As := [.int x1, .int x2]) (rest := []) (c_X4_settle hg46) (cw_X4_performAdding_X4_settle_115 C) 0 rfl rfl rfl (Nat.le_of_ble_eq_true rfl) dX4_performAdding_46 ⟨Nat.zero_le _, Nat.zero_le _⟩) ?_
  refine x_locals (lv' := []) [] rfl ?_
  exact X_X4_performAdding_b49 C h
def X4_performAdding_b33 (S : St) (x1 x2 : Int32) : Option (St) :=
  X4_performAdding_b43 (up S 0 (upd (S 0) 10 ((S 0 10) + 1))) x1 x2
set_option maxHeartbeats 4000000 in
set_option maxRecDepth 100000 in
theorem X_X4_performAdding_b33 {p : Program} {l : Launch} {e : Env} {s : State} {m : MethodId} {args : Array Value} {below : List Frame} {meth : Method} {c : Code} {D : va_G} {cI cZ cJ : ClassId} {ad : Nat → Nat} {rest w0 : va_W} (C : XC p rm_X4_performAdding s m args meth c cX4_performAdding 5 none RX4 wsX4_performAdding D (t3 cI cZ cJ)) {S : St} {x1 x2 : Int32} {r : St} (h : X4_performAdding_b33 S x1 x2 = some r) : XW p l e rm_X4_performAdding s m args below meth c D w0 5 (MQ below (QV D (t3 cI cZ cJ) w0 (wE cI cZ ad r rest) s.heap.size) args s 0 0 (va_A w0 s.heap.size)) (wE cI cZ ad S rest) 0 0 33 [(0, .ref (ad 0)), (1, .int x1), (2, .int x2)] [] := by
  unfold X4_performAdding_b33 at h
  refine x_aload_n C 0 dX4_performAdding_33 rfl ?_
  refine x_dup C dX4_performAdding_34 rfl ?_
  refine x_get C (R' := RX4) (T := TX4) (N := 11) (ci := 4) 0 10 rfl rfl (by decide) rfl rfl hi_X4_performAdding_4 lk_X4_performAdding_52 dX4_performAdding_35 ?_
  refine x_iconst C (v := 1) dX4_performAdding_38 (by decide) ?_
  refine x_iadd C dX4_performAdding_39 ?_
  refine x_put C (R' := RX4) (T := TX4) (N := 11) (ci := 4) tyX4 tyX4_ok nmX4 0 10 rfl rfl (by decide) rfl rfl (lt_ble rfl) rfl hi_X4_performAdding_4 lk_X4_performAdding_52 dX4_performAdding_40 (wE_f0_10 cI cZ ad S rest ((S 0 10) + 1)) ?_
  exact X_X4_performAdding_b43 C h
def X4_performAdding_b25 (S : St) (x1 x2 x4 : Int32) : Option (St) :=
  if inB x1 42 then (X4_performAdding_b33 (up S 5 (upd (S 5) x1.toNatClampNeg x4)) x1 x2) else none
set_option maxHeartbeats 4000000 in
set_option maxRecDepth 100000 in
theorem X_X4_performAdding_b25 {p : Program} {l : Launch} {e : Env} {s : State} {m : MethodId} {args : Array Value} {below : List Frame} {meth : Method} {c : Code} {D : va_G} {cI cZ cJ : ClassId} {ad : Nat → Nat} {rest w0 : va_W} (C : XC p rm_X4_performAdding s m args meth c cX4_performAdding 5 none RX4 wsX4_performAdding D (t3 cI cZ cJ)) {S : St} {x1 x2 x4 : Int32} {r : St} (h : X4_performAdding_b25 S x1 x2 x4 = some r) : XW p l e rm_X4_performAdding s m args below meth c D w0 5 (MQ below (QV D (t3 cI cZ cJ) w0 (wE cI cZ ad r rest) s.heap.size) args s 0 0 (va_A w0 s.heap.size)) (wE cI cZ ad S rest) 0 0 25 [(0, .ref (ad 0)), (1, .int x1), (2, .int x2), (4, .int x4)] [] := by
  unfold X4_performAdding_b25 at h
  refine x_aload_n C 0 dX4_performAdding_25 rfl ?_
  refine x_get C (R' := RX4) (T := TX4) (N := 11) (ci := 4) 0 8 rfl rfl (by decide) rfl rfl hi_X4_performAdding_4 lk_X4_performAdding_25 dX4_performAdding_26 ?_
  refine x_iload_n C 1 dX4_performAdding_29 rfl ?_
  refine x_iload C 3 dX4_performAdding_30 rfl ?_
  obtain ⟨g32, h⟩ := gdB h
  refine x_iast C 5 rfl g32 dX4_performAdding_32 (wE_s5 cI cZ ad S rest (upd (S 5) x1.toNatClampNeg x4)) ?_
  refine x_locals (lv' := [(0, .ref (ad 0)), (1, .int x1), (2, .int x2)]) [0, 1, 2] rfl ?_
  exact X_X4_performAdding_b33 C h
def X4_performAdding_b18 (S : St) (x1 x2 x3 x4 : Int32) : Option (St) :=
  if inB x1 42 then (X4_performAdding_b25 (up S 4 (upd (S 4) x1.toNatClampNeg x3)) x1 x2 x4) else none
set_option maxHeartbeats 4000000 in
set_option maxRecDepth 100000 in
theorem X_X4_performAdding_b18 {p : Program} {l : Launch} {e : Env} {s : State} {m : MethodId} {args : Array Value} {below : List Frame} {meth : Method} {c : Code} {D : va_G} {cI cZ cJ : ClassId} {ad : Nat → Nat} {rest w0 : va_W} (C : XC p rm_X4_performAdding s m args meth c cX4_performAdding 5 none RX4 wsX4_performAdding D (t3 cI cZ cJ)) {S : St} {x1 x2 x3 x4 : Int32} {r : St} (h : X4_performAdding_b18 S x1 x2 x3 x4 = some r) : XW p l e rm_X4_performAdding s m args below meth c D w0 5 (MQ below (QV D (t3 cI cZ cJ) w0 (wE cI cZ ad r rest) s.heap.size) args s 0 0 (va_A w0 s.heap.size)) (wE cI cZ ad S rest) 0 0 18 [(0, .ref (ad 0)), (1, .int x1), (2, .int x2), (3, .int x3), (4, .int x4)] [] := by
  unfold X4_performAdding_b18 at h
  refine x_aload_n C 0 dX4_performAdding_18 rfl ?_
  refine x_get C (R' := RX4) (T := TX4) (N := 11) (ci := 4) 0 7 rfl rfl (by decide) rfl rfl hi_X4_performAdding_4 lk_X4_performAdding_22 dX4_performAdding_19 ?_
  refine x_iload_n C 1 dX4_performAdding_22 rfl ?_
  refine x_iload_n C 3 dX4_performAdding_23 rfl ?_
  obtain ⟨g24, h⟩ := gdB h
  refine x_iast C 4 rfl g24 dX4_performAdding_24 (wE_s4 cI cZ ad S rest (upd (S 4) x1.toNatClampNeg x3)) ?_
  refine x_locals (lv' := [(0, .ref (ad 0)), (1, .int x1), (2, .int x2), (4, .int x4)]) [0, 1, 2, 4] rfl ?_
  exact X_X4_performAdding_b25 C h
def X4_performAdding (S : St) (x1 x2 x3 x4 : Int32) : Option (St) :=
  if x1 < 0 then (X4_performAdding_b10 S) else (if x1 < 42 then (if inB x1 42 then (X4_performAdding_b18 (up S 2 (upd (S 2) x1.toNatClampNeg (vp_nar .boolean 1))) x1 x2 x3 x4) else none) else (X4_performAdding_b10 S))
set_option maxHeartbeats 4000000 in
set_option maxRecDepth 100000 in
theorem X_X4_performAdding {p : Program} {l : Launch} {e : Env} {s : State} {m : MethodId} {args : Array Value} {below : List Frame} {meth : Method} {c : Code} {D : va_G} {cI cZ cJ : ClassId} {ad : Nat → Nat} {rest w0 : va_W} (C : XC p rm_X4_performAdding s m args meth c cX4_performAdding 5 none RX4 wsX4_performAdding D (t3 cI cZ cJ)) {S : St} {x1 x2 x3 x4 : Int32} {r : St} (h : X4_performAdding S x1 x2 x3 x4 = some r) : XW p l e rm_X4_performAdding s m args below meth c D w0 5 (MQ below (QV D (t3 cI cZ cJ) w0 (wE cI cZ ad r rest) s.heap.size) args s 0 0 (va_A w0 s.heap.size)) (wE cI cZ ad S rest) 0 0 0 [(0, .ref (ad 0)), (1, .int x1), (2, .int x2), (3, .int x3), (4, .int x4)] [] := by
  unfold X4_performAdding at h
  refine x_iload_n C 1 dX4_performAdding_0 rfl ?_
  refine x_if_lt C (t := 10) dX4_performAdding_1 (by decide) (fun c1 => ?_) (fun c1 => ?_)
  · replace h := (if_pos c1).symm.trans h
    refine x_locals (lv' := []) [] rfl ?_
    exact X_X4_performAdding_b10 C h
  · replace h := (if_neg c1).symm.trans h
    refine x_iload_n C 1 dX4_performAdding_4 rfl ?_
    refine x_bipush C (v := 42) dX4_performAdding_5 (by decide) ?_
    refine x_icmp_lt C (t := 11) dX4_performAdding_7 (by decide) (fun c7 => ?_) (fun c7 => ?_)
    · replace h := (if_pos c7).symm.trans h
      refine x_aload_n C 0 dX4_performAdding_11 rfl ?_
      refine x_get C (R' := RX4) (T := TX4) (N := 11) (ci := 4) 0 5 rfl rfl (by decide) rfl rfl hi_X4_performAdding_4 lk_X4_performAdding_15 dX4_performAdding_12 ?_
      refine x_iload_n C 1 dX4_performAdding_15 rfl ?_
      refine x_iconst C (v := 1) dX4_performAdding_16 (by decide) ?_
      obtain ⟨g17, h⟩ := gdB h
      refine x_zast C 2 rfl g17 dX4_performAdding_17 (wE_s2 cI cZ ad S rest (upd (S 2) x1.toNatClampNeg (vp_nar .boolean 1))) ?_
      exact X_X4_performAdding_b18 C h
    · replace h := (if_neg c7).symm.trans h
      refine x_locals (lv' := []) [] rfl ?_
      exact X_X4_performAdding_b10 C h
set_option maxRecDepth 100000 in
theorem c_X4_performAdding {l : Launch} {D : va_G} {cI cZ cJ : ClassId} {ad : Nat → Nat} {S : St} {rest : va_W} {x1 x2 x3 x4 : Int32} {r : St} (h : X4_performAdding S x1 x2 x3 x4 = some r) : ∀ sz, Met l yX4_performAdding wsX4_performAdding rm_X4_performAdding (PC D (t3 cI cZ cJ) [.ref (ad 0), .int x1, .int x2, .int x3, .int x4] (wE cI cZ ad S rest) sz) (QV D (t3 cI cZ cJ) (wE cI cZ ad S rest) (wE cI cZ ad r rest) sz) 0 0 (va_A (wE cI cZ ad S rest) sz) := by
  refine x_met (Qc := fun sz => QV D (t3 cI cZ cJ) (wE cI cZ ad S rest) (wE cI cZ ad r rest) sz) RX4 rfl (by decide) rfl (Nat.le_of_ble_eq_true rfl) (fun p e s m args below meth c C => ?_)
  exact X_X4_performAdding C h
/-! EntryMasters$Tree.performSetting(III)V -/
abbrev rm_X4_performSetting : Room := { frames := 3, cells := 0, slots := 0, locals := 65 }
theorem hi_X4_performSetting_4 : ∀ z ∈ u_ws RX4 TX4 11, z ∈ wsX4_performSetting := by decide +kernel
theorem lk_X4_performSetting_28 : Cond.fieldLink RX4 28 RX4 "values" "[I" ∈ wsX4_performSetting := by decide +kernel
theorem cw_X4_performSetting_X4_has_119 {p : Program} {s : State} {m : MethodId} {args : Array Value} {meth : Method} {c : Code} {D : va_G} {tys : List (ClassId × FieldType)} {R : Room} (C : XC p R s m args meth c cX4_performSetting 4 none RX4 wsX4_performSetting D tys) : CallW rm_X4_performSetting s args RX4 RX4 119 yX4_has cX4_has 2 (some .boolean) wsX4_has rm_X4_has 0 0 1 := cwV 1 C.2.2.2.2.1 gX4_performSetting_X4_has rfl rfl rfl (by decide +kernel) ⟨Nat.le_of_ble_eq_true rfl, Nat.le_of_ble_eq_true rfl⟩
theorem cw_X4_performSetting_X4_mayHold_123 {p : Program} {s : State} {m : MethodId} {args : Array Value} {meth : Method} {c : Code} {D : va_G} {tys : List (ClassId × FieldType)} {R : Room} (C : XC p R s m args meth c cX4_performSetting 4 none RX4 wsX4_performSetting D tys) : CallW rm_X4_performSetting s args RX4 RX4 123 yX4_mayHold cX4_mayHold 3 (some .boolean) wsX4_mayHold rm_X4_mayHold 0 0 2 := cwV 2 C.2.2.2.2.1 gX4_performSetting_X4_mayHold rfl rfl rfl (by decide +kernel) ⟨Nat.le_of_ble_eq_true rfl, Nat.le_of_ble_eq_true rfl⟩
theorem cw_X4_performSetting_X5_put_82 {p : Program} {s : State} {m : MethodId} {args : Array Value} {meth : Method} {c : Code} {D : va_G} {tys : List (ClassId × FieldType)} {R : Room} (C : XC p R s m args meth c cX4_performSetting 4 none RX4 wsX4_performSetting D tys) : va_CN rm_X4_performSetting s args RX4 82 yX5_put RX5 cX5_put 3 none wsX5_put rm_X5_put 0 0 3 ∧ (Cond.static yX5_put).before args s = true ∧ True := ⟨va_cnB 3 C.2.2.2.2.1 gX4_performSetting_X5_put_n82 rfl rfl rfl (C.2.2.2.2.2.2.1.1 _ (nm_mem 10 rfl)) (C.2.2.2.2.1 (.initialized RX5) (by decide +kernel)) (by decide +kernel) ⟨Nat.le_of_ble_eq_true rfl, Nat.le_of_ble_eq_true rfl⟩, C.2.2.2.2.1 (.static yX5_put) (by decide +kernel), trivial⟩
def X4_performSetting_b30 (S : St) : Option (St) :=
  some S
set_option maxHeartbeats 4000000 in
set_option maxRecDepth 100000 in
theorem X_X4_performSetting_b30 {p : Program} {l : Launch} {e : Env} {s : State} {m : MethodId} {args : Array Value} {below : List Frame} {meth : Method} {c : Code} {D : va_G} {cI cZ cJ : ClassId} {ad : Nat → Nat} {rest w0 : va_W} (C : XC p rm_X4_performSetting s m args meth c cX4_performSetting 4 none RX4 wsX4_performSetting D (t3 cI cZ cJ)) {S : St} {r : St} (h : X4_performSetting_b30 S = some r) : XW p l e rm_X4_performSetting s m args below meth c D w0 4 (MQ below (QV D (t3 cI cZ cJ) w0 (wE cI cZ ad r rest) s.heap.size) args s 0 0 (va_A w0 s.heap.size)) (wE cI cZ ad S rest) 0 0 30 [] [] := by
  unfold X4_performSetting_b30 at h
  obtain rfl := Option.some.inj h
  exact x_vret C dX4_performSetting_30
def X4_performSetting (S : St) (x1 x2 x3 : Int32) : Option (St) :=
  (X4_has S x1).bind fun v2 => if v2 = 0 then (X4_performSetting_b30 S) else ((X4_mayHold S x1 x2).bind fun v11 => if v11 = 0 then (X4_performSetting_b30 S) else ((X5_put 168 (S 6) ((x1 * 4) + x2) x3).bind fun f27 => X4_performSetting_b30 (up S 6 f27)))
set_option maxHeartbeats 4000000 in
set_option maxRecDepth 100000 in
theorem X_X4_performSetting {p : Program} {l : Launch} {e : Env} {s : State} {m : MethodId} {args : Array Value} {below : List Frame} {meth : Method} {c : Code} {D : va_G} {cI cZ cJ : ClassId} {ad : Nat → Nat} {rest w0 : va_W} (C : XC p rm_X4_performSetting s m args meth c cX4_performSetting 4 none RX4 wsX4_performSetting D (t3 cI cZ cJ)) {S : St} {x1 x2 x3 : Int32} {r : St} (h : X4_performSetting S x1 x2 x3 = some r) : XW p l e rm_X4_performSetting s m args below meth c D w0 4 (MQ below (QV D (t3 cI cZ cJ) w0 (wE cI cZ ad r rest) s.heap.size) args s 0 0 (va_A w0 s.heap.size)) (wE cI cZ ad S rest) 0 0 0 [(0, .ref (ad 0)), (1, .int x1), (2, .int x2), (3, .int x3)] [] := by
  unfold X4_performSetting at h
  refine x_aload_n C 0 dX4_performSetting_0 rfl ?_
  refine x_iload_n C 1 dX4_performSetting_1 rfl ?_
  obtain ⟨v2, hg2, h⟩ := ob h
  refine x_ci0 (x_runV C (As := [.int x1]) (rest := []) (c_X4_has hg2) (cw_X4_performSetting_X4_has_119 C) 0 rfl rfl rfl (Nat.le_of_ble_eq_true rfl) dX4_performSetting_2 ⟨Nat.zero_le _, Nat.zero_le _⟩) ?_
  refine x_if_eq C (t := 30) dX4_performSetting_5 (by decide) (fun c5 => ?_) (fun c5 => ?_)
  · replace h := (if_pos c5).symm.trans h
    refine x_locals (lv' := []) [] rfl ?_
    exact X_X4_performSetting_b30 C h
  · replace h := (if_neg c5).symm.trans h
    refine x_aload_n C 0 dX4_performSetting_8 rfl ?_
    refine x_iload_n C 1 dX4_performSetting_9 rfl ?_
    refine x_iload_n C 2 dX4_performSetting_10 rfl ?_
    obtain ⟨v11, hg11, h⟩ := ob h
    refine x_ci0 (x_runV C (As := [.int x1, .int x2]) (rest := []) (c_X4_mayHold hg11) (cw_X4_performSetting_X4_mayHold_123 C) 0 rfl rfl rfl (Nat.le_of_ble_eq_true rfl) dX4_performSetting_11 ⟨Nat.zero_le _, Nat.zero_le _⟩) ?_
    refine x_if_eq C (t := 30) dX4_performSetting_14 (by decide) (fun c14 => ?_) (fun c14 => ?_)
    · replace h := (if_pos c14).symm.trans h
      refine x_locals (lv' := []) [] rfl ?_
      exact X_X4_performSetting_b30 C h
    · replace h := (if_neg c14).symm.trans h
      refine x_aload_n C 0 dX4_performSetting_17 rfl ?_
      refine x_get C (R' := RX4) (T := TX4) (N := 11) (ci := 4) 0 9 rfl rfl (by decide) rfl rfl hi_X4_performSetting_4 lk_X4_performSetting_28 dX4_performSetting_18 ?_
      refine x_iload_n C 1 dX4_performSetting_21 rfl ?_
      refine x_iconst C (v := 4) dX4_performSetting_22 (by decide) ?_
      refine x_imul C dX4_performSetting_23 ?_
      refine x_iload_n C 2 dX4_performSetting_24 rfl ?_
      refine x_iadd C dX4_performSetting_25 ?_
      refine x_iload_n C 3 dX4_performSetting_26 rfl ?_
      obtain ⟨f27, hg27, h⟩ := ob h
      refine x_cv0 (x_runSN C (As := [.ref (ad 6), .int ((x1 * 4) + x2), .int x3]) (rest := []) (c_X5_put 6 rfl hg27) (cw_X4_performSetting_X5_put_82 C) rfl (Nat.le_of_ble_eq_true rfl) dX4_performSetting_27 ⟨Nat.zero_le _, Nat.zero_le _⟩) ?_
      refine x_eqw (wE_s6 cI cZ ad S rest f27) ?_
      refine x_locals (lv' := []) [] rfl ?_
      exact X_X4_performSetting_b30 C h
set_option maxRecDepth 100000 in
theorem c_X4_performSetting {l : Launch} {D : va_G} {cI cZ cJ : ClassId} {ad : Nat → Nat} {S : St} {rest : va_W} {x1 x2 x3 : Int32} {r : St} (h : X4_performSetting S x1 x2 x3 = some r) : ∀ sz, Met l yX4_performSetting wsX4_performSetting rm_X4_performSetting (PC D (t3 cI cZ cJ) [.ref (ad 0), .int x1, .int x2, .int x3] (wE cI cZ ad S rest) sz) (QV D (t3 cI cZ cJ) (wE cI cZ ad S rest) (wE cI cZ ad r rest) sz) 0 0 (va_A (wE cI cZ ad S rest) sz) := by
  refine x_met (Qc := fun sz => QV D (t3 cI cZ cJ) (wE cI cZ ad S rest) (wE cI cZ ad r rest) sz) RX4 rfl (by decide) rfl (Nat.le_of_ble_eq_true rfl) (fun p e s m args below meth c C => ?_)
  exact X_X4_performSetting C h
/-! EntryMasters$Tree.isAtOrBelow(II)Z -/
abbrev rm_X4_isAtOrBelow : Room := { frames := 2, cells := 0, slots := 0, locals := 42 }
theorem cw_X4_isAtOrBelow_X4_parentAt_145 {p : Program} {s : State} {m : MethodId} {args : Array Value} {meth : Method} {c : Code} {D : va_G} {tys : List (ClassId × FieldType)} {R : Room} (C : XC p R s m args meth c cX4_isAtOrBelow 5 (some .boolean) RX4 wsX4_isAtOrBelow D tys) : CallW rm_X4_isAtOrBelow s args RX4 RX4 145 yX4_parentAt cX4_parentAt 2 (some .int) wsX4_parentAt rm_X4_parentAt 0 0 1 := cwV 1 C.2.2.2.2.1 gX4_isAtOrBelow_X4_parentAt rfl rfl rfl (by decide +kernel) ⟨Nat.le_of_ble_eq_true rfl, Nat.le_of_ble_eq_true rfl⟩
def X4_isAtOrBelow_b36 (S : St) : Option (Int32) :=
  some 0
set_option maxHeartbeats 4000000 in
set_option maxRecDepth 100000 in
theorem X_X4_isAtOrBelow_b36 {p : Program} {l : Launch} {e : Env} {s : State} {m : MethodId} {args : Array Value} {below : List Frame} {meth : Method} {c : Code} {D : va_G} {cI cZ cJ : ClassId} {ad : Nat → Nat} {rest w0 : va_W} (C : XC p rm_X4_isAtOrBelow s m args meth c cX4_isAtOrBelow 5 (some .boolean) RX4 wsX4_isAtOrBelow D (t3 cI cZ cJ)) {S : St} {r : Int32} (h : X4_isAtOrBelow_b36 S = some r) : XW p l e rm_X4_isAtOrBelow s m args below meth c D w0 5 (MQ below (QI D (t3 cI cZ cJ) w0 (wE cI cZ ad S rest) s.heap.size r) args s 0 0 (va_A w0 s.heap.size)) (wE cI cZ ad S rest) 0 0 36 [] [] := by
  unfold X4_isAtOrBelow_b36 at h
  refine x_iconst C (v := 0) dX4_isAtOrBelow_36 (by decide) ?_
  obtain rfl := Option.some.inj h
  exact x_zret C rfl dX4_isAtOrBelow_37
def X4_isAtOrBelow_b22 (S : St) : Option (Int32) :=
  some 1
set_option maxHeartbeats 4000000 in
set_option maxRecDepth 100000 in
theorem X_X4_isAtOrBelow_b22 {p : Program} {l : Launch} {e : Env} {s : State} {m : MethodId} {args : Array Value} {below : List Frame} {meth : Method} {c : Code} {D : va_G} {cI cZ cJ : ClassId} {ad : Nat → Nat} {rest w0 : va_W} (C : XC p rm_X4_isAtOrBelow s m args meth c cX4_isAtOrBelow 5 (some .boolean) RX4 wsX4_isAtOrBelow D (t3 cI cZ cJ)) {S : St} {r : Int32} (h : X4_isAtOrBelow_b22 S = some r) : XW p l e rm_X4_isAtOrBelow s m args below meth c D w0 5 (MQ below (QI D (t3 cI cZ cJ) w0 (wE cI cZ ad S rest) s.heap.size r) args s 0 0 (va_A w0 s.heap.size)) (wE cI cZ ad S rest) 0 0 22 [] [] := by
  unfold X4_isAtOrBelow_b22 at h
  refine x_iconst C (v := 1) dX4_isAtOrBelow_22 (by decide) ?_
  obtain rfl := Option.some.inj h
  exact x_zret C rfl dX4_isAtOrBelow_23
def X4_isAtOrBelow_H5 (S : St) (x2 x3 x4 : Int32) : Option ((Int32 × Int32 × Int32) ⊕ (Int32)) :=
  if 42 ≤ x4 then (exI (X4_isAtOrBelow_b36 S)) else (if x3 = (-1) then (exI (X4_isAtOrBelow_b36 S)) else (if x3 = x2 then (exI (X4_isAtOrBelow_b22 S)) else ((X4_parentAt S x3).bind fun v26 => some (.inl (x2, v26, x4 + 1)))))
set_option maxHeartbeats 4000000 in
set_option maxRecDepth 100000 in
theorem X_X4_isAtOrBelow_H5 {p : Program} {l : Launch} {e : Env} {s : State} {m : MethodId} {args : Array Value} {below : List Frame} {meth : Method} {c : Code} {D : va_G} {cI cZ cJ : ClassId} {ad : Nat → Nat} {rest w0 : va_W} (C : XC p rm_X4_isAtOrBelow s m args meth c cX4_isAtOrBelow 5 (some .boolean) RX4 wsX4_isAtOrBelow D (t3 cI cZ cJ)) {S : St} {x2 x3 x4 : Int32} {z : (Int32 × Int32 × Int32) ⊕ (Int32)} {r : Int32} (h : X4_isAtOrBelow_H5 S x2 x3 x4 = some z) (hk : ∀ a' : (Int32 × Int32 × Int32), z = .inl a' → XW p l e rm_X4_isAtOrBelow s m args below meth c D w0 5 (MQ below (QI D (t3 cI cZ cJ) w0 (wE cI cZ ad S rest) s.heap.size r) args s 0 0 (va_A w0 s.heap.size)) (wE cI cZ ad S rest) 0 0 5 [(0, .ref (ad 0)), (2, .int a'.1), (3, .int a'.2.1), (4, .int a'.2.2)] []) (hr : ∀ r', z = .inr r' → r' = r) : XW p l e rm_X4_isAtOrBelow s m args below meth c D w0 5 (MQ below (QI D (t3 cI cZ cJ) w0 (wE cI cZ ad S rest) s.heap.size r) args s 0 0 (va_A w0 s.heap.size)) (wE cI cZ ad S rest) 0 0 5 [(0, .ref (ad 0)), (2, .int x2), (3, .int x3), (4, .int x4)] [] := by
  unfold X4_isAtOrBelow_H5 at h
  refine x_iload C 3 dX4_isAtOrBelow_5 rfl ?_
  refine x_bipush C (v := 42) dX4_isAtOrBelow_7 (by decide) ?_
  refine x_icmp_ge C (t := 36) dX4_isAtOrBelow_9 (by decide) (fun c9 => ?_) (fun c9 => ?_)
  · replace h := (if_pos c9).symm.trans h
    refine x_locals (lv' := []) [] rfl ?_
    obtain ⟨r1, h1, h2⟩ := exI_some h
    obtain rfl := hr r1 h2
    exact X_X4_isAtOrBelow_b36 C h1
  · replace h := (if_neg c9).symm.trans h
    refine x_iload_n C 2 dX4_isAtOrBelow_12 rfl ?_
    refine x_iconst C (v := (-1)) dX4_isAtOrBelow_13 (by decide) ?_
    refine x_icmp_eq C (t := 36) dX4_isAtOrBelow_14 (by decide) (fun c14 => ?_) (fun c14 => ?_)
    · replace h := (if_pos c14).symm.trans h
      refine x_locals (lv' := []) [] rfl ?_
      obtain ⟨r1, h1, h2⟩ := exI_some h
      obtain rfl := hr r1 h2
      exact X_X4_isAtOrBelow_b36 C h1
    · replace h := (if_neg c14).symm.trans h
      refine x_iload_n C 2 dX4_isAtOrBelow_17 rfl ?_
      refine x_iload_n C 1 dX4_isAtOrBelow_18 rfl ?_
      refine x_icmp_ne C (t := 24) dX4_isAtOrBelow_19 (by decide) (fun c19 => ?_) (fun c19 => ?_)
      · replace h := (if_neg c19).symm.trans h
        refine x_aload_n C 0 dX4_isAtOrBelow_24 rfl ?_
        refine x_iload_n C 2 dX4_isAtOrBelow_25 rfl ?_
        obtain ⟨v26, hg26, h⟩ := ob h
        refine x_ci0 (x_runV C (As := [.int x3]) (rest := []) (c_X4_parentAt hg26) (cw_X4_isAtOrBelow_X4_parentAt_145 C) 0 rfl rfl rfl (Nat.le_of_ble_eq_true rfl) dX4_isAtOrBelow_26 ⟨Nat.zero_le _, Nat.zero_le _⟩) ?_
        refine x_istore_n C (lv' := [(0, .ref (ad 0)), (2, .int x2), (3, .int v26), (4, .int x4)]) dX4_isAtOrBelow_29 (by decide) rfl ?_
        refine x_iinc C (v := x4 + 1) (lv' := [(0, .ref (ad 0)), (2, .int x2), (3, .int v26), (4, .int (x4 + 1))]) 3 dX4_isAtOrBelow_30 rfl rfl (by decide) rfl ?_
        refine x_goto C (t := 5) dX4_isAtOrBelow_33 (by decide) ?_
        exact hk _ (Option.some.inj h).symm
      · replace h := (if_pos c19).symm.trans h
        refine x_locals (lv' := []) [] rfl ?_
        obtain ⟨r1, h1, h2⟩ := exI_some h
        obtain rfl := hr r1 h2
        exact X_X4_isAtOrBelow_b22 C h1
def X4_isAtOrBelow_L5 (S : St) (x2 x3 x4 : Int32) : Option (Int32) := wloop (fun a' : (Int32 × Int32 × Int32) => X4_isAtOrBelow_H5 S a'.1 a'.2.1 a'.2.2) 1000 (x2, x3, x4)
set_option maxHeartbeats 4000000 in
set_option maxRecDepth 100000 in
theorem X_X4_isAtOrBelow_L5 {p : Program} {l : Launch} {e : Env} {s : State} {m : MethodId} {args : Array Value} {below : List Frame} {meth : Method} {c : Code} {D : va_G} {cI cZ cJ : ClassId} {ad : Nat → Nat} {rest w0 : va_W} (C : XC p rm_X4_isAtOrBelow s m args meth c cX4_isAtOrBelow 5 (some .boolean) RX4 wsX4_isAtOrBelow D (t3 cI cZ cJ)) {S : St} {x2 x3 x4 : Int32} {r : Int32} (h : X4_isAtOrBelow_L5 S x2 x3 x4 = some r) : XW p l e rm_X4_isAtOrBelow s m args below meth c D w0 5 (MQ below (QI D (t3 cI cZ cJ) w0 (wE cI cZ ad S rest) s.heap.size r) args s 0 0 (va_A w0 s.heap.size)) (wE cI cZ ad S rest) 0 0 5 [(0, .ref (ad 0)), (2, .int x2), (3, .int x3), (4, .int x4)] [] :=
  wloop_met (P := (fun a' : (Int32 × Int32 × Int32) => XW p l e rm_X4_isAtOrBelow s m args below meth c D w0 5 (MQ below (QI D (t3 cI cZ cJ) w0 (wE cI cZ ad S rest) s.heap.size r) args s 0 0 (va_A w0 s.heap.size)) (wE cI cZ ad S rest) 0 0 5 [(0, .ref (ad 0)), (2, .int a'.1), (3, .int a'.2.1), (4, .int a'.2.2)] [])) (fun _ _ hz hk hr => X_X4_isAtOrBelow_H5 C hz hk hr) 1000 (x2, x3, x4) h
def X4_isAtOrBelow (S : St) (x1 x2 : Int32) : Option (Int32) :=
  X4_isAtOrBelow_L5 S x2 x1 0
set_option maxHeartbeats 4000000 in
set_option maxRecDepth 100000 in
theorem X_X4_isAtOrBelow {p : Program} {l : Launch} {e : Env} {s : State} {m : MethodId} {args : Array Value} {below : List Frame} {meth : Method} {c : Code} {D : va_G} {cI cZ cJ : ClassId} {ad : Nat → Nat} {rest w0 : va_W} (C : XC p rm_X4_isAtOrBelow s m args meth c cX4_isAtOrBelow 5 (some .boolean) RX4 wsX4_isAtOrBelow D (t3 cI cZ cJ)) {S : St} {x1 x2 : Int32} {r : Int32} (h : X4_isAtOrBelow S x1 x2 = some r) : XW p l e rm_X4_isAtOrBelow s m args below meth c D w0 5 (MQ below (QI D (t3 cI cZ cJ) w0 (wE cI cZ ad S rest) s.heap.size r) args s 0 0 (va_A w0 s.heap.size)) (wE cI cZ ad S rest) 0 0 0 [(0, .ref (ad 0)), (1, .int x1), (2, .int x2)] [] := by
  unfold X4_isAtOrBelow at h
  refine x_iload_n C 1 dX4_isAtOrBelow_0 rfl ?_
  refine x_istore_n C (lv' := [(0, .ref (ad 0)), (1, .int x1), (2, .int x2), (3, .int x1)]) dX4_isAtOrBelow_1 (by decide) rfl ?_
  refine x_iconst C (v := 0) dX4_isAtOrBelow_2 (by decide) ?_
  refine x_istore C (lv' := [(0, .ref (ad 0)), (1, .int x1), (2, .int x2), (3, .int x1), (4, .int 0)]) dX4_isAtOrBelow_3 (by decide) rfl ?_
  refine x_locals (lv' := [(0, .ref (ad 0)), (2, .int x2), (3, .int x1), (4, .int 0)]) [0, 2, 3, 4] rfl ?_
  exact X_X4_isAtOrBelow_L5 C h
set_option maxRecDepth 100000 in
theorem c_X4_isAtOrBelow {l : Launch} {D : va_G} {cI cZ cJ : ClassId} {ad : Nat → Nat} {S : St} {rest : va_W} {x1 x2 : Int32} {r : Int32} (h : X4_isAtOrBelow S x1 x2 = some r) : ∀ sz, Met l yX4_isAtOrBelow wsX4_isAtOrBelow rm_X4_isAtOrBelow (PC D (t3 cI cZ cJ) [.ref (ad 0), .int x1, .int x2] (wE cI cZ ad S rest) sz) (QI D (t3 cI cZ cJ) (wE cI cZ ad S rest) (wE cI cZ ad S rest) sz r) 0 0 (va_A (wE cI cZ ad S rest) sz) := by
  refine x_met (Qc := fun sz => QI D (t3 cI cZ cJ) (wE cI cZ ad S rest) (wE cI cZ ad S rest) sz r) RX4 rfl (by decide) rfl (Nat.le_of_ble_eq_true rfl) (fun p e s m args below meth c C => ?_)
  exact X_X4_isAtOrBelow C h
/-! EntryMasters$Tree.performMoving(III)V -/
abbrev rm_X4_performMoving : Room := { frames := 3, cells := 0, slots := 0, locals := 68 }
theorem hi_X4_performMoving_4 : ∀ z ∈ u_ws RX4 TX4 11, z ∈ wsX4_performMoving := by decide +kernel
theorem lk_X4_performMoving_22 : Cond.fieldLink RX4 22 RX4 "labels" "[I" ∈ wsX4_performMoving := by decide +kernel
theorem cw_X4_performMoving_X4_has_119 {p : Program} {s : State} {m : MethodId} {args : Array Value} {meth : Method} {c : Code} {D : va_G} {tys : List (ClassId × FieldType)} {R : Room} (C : XC p R s m args meth c cX4_performMoving 4 none RX4 wsX4_performMoving D tys) : CallW rm_X4_performMoving s args RX4 RX4 119 yX4_has cX4_has 2 (some .boolean) wsX4_has rm_X4_has 0 0 1 := cwV 1 C.2.2.2.2.1 gX4_performMoving_X4_has rfl rfl rfl (by decide +kernel) ⟨Nat.le_of_ble_eq_true rfl, Nat.le_of_ble_eq_true rfl⟩
theorem cw_X4_performMoving_X4_isAtOrBelow_127 {p : Program} {s : State} {m : MethodId} {args : Array Value} {meth : Method} {c : Code} {D : va_G} {tys : List (ClassId × FieldType)} {R : Room} (C : XC p R s m args meth c cX4_performMoving 4 none RX4 wsX4_performMoving D tys) : CallW rm_X4_performMoving s args RX4 RX4 127 yX4_isAtOrBelow cX4_isAtOrBelow 5 (some .boolean) wsX4_isAtOrBelow rm_X4_isAtOrBelow 0 0 2 := cwV 2 C.2.2.2.2.1 gX4_performMoving_X4_isAtOrBelow rfl rfl rfl (by decide +kernel) ⟨Nat.le_of_ble_eq_true rfl, Nat.le_of_ble_eq_true rfl⟩
theorem cw_X4_performMoving_X4_settle_115 {p : Program} {s : State} {m : MethodId} {args : Array Value} {meth : Method} {c : Code} {D : va_G} {tys : List (ClassId × FieldType)} {R : Room} (C : XC p R s m args meth c cX4_performMoving 4 none RX4 wsX4_performMoving D tys) : CallW rm_X4_performMoving s args RX4 RX4 115 yX4_settle cX4_settle 4 none wsX4_settle rm_X4_settle 0 0 2 := cwV 2 C.2.2.2.2.1 gX4_performMoving_X4_settle rfl rfl rfl (by decide +kernel) ⟨Nat.le_of_ble_eq_true rfl, Nat.le_of_ble_eq_true rfl⟩
def X4_performMoving_b30 (S : St) : Option (St) :=
  some S
set_option maxHeartbeats 4000000 in
set_option maxRecDepth 100000 in
theorem X_X4_performMoving_b30 {p : Program} {l : Launch} {e : Env} {s : State} {m : MethodId} {args : Array Value} {below : List Frame} {meth : Method} {c : Code} {D : va_G} {cI cZ cJ : ClassId} {ad : Nat → Nat} {rest w0 : va_W} (C : XC p rm_X4_performMoving s m args meth c cX4_performMoving 4 none RX4 wsX4_performMoving D (t3 cI cZ cJ)) {S : St} {r : St} (h : X4_performMoving_b30 S = some r) : XW p l e rm_X4_performMoving s m args below meth c D w0 4 (MQ below (QV D (t3 cI cZ cJ) w0 (wE cI cZ ad r rest) s.heap.size) args s 0 0 (va_A w0 s.heap.size)) (wE cI cZ ad S rest) 0 0 30 [] [] := by
  unfold X4_performMoving_b30 at h
  obtain rfl := Option.some.inj h
  exact x_vret C dX4_performMoving_30
def X4_performMoving_b24 (S : St) (x1 x2 : Int32) : Option (St) :=
  (X4_settle S x1 x2).bind fun S27 => X4_performMoving_b30 S27
set_option maxHeartbeats 4000000 in
set_option maxRecDepth 100000 in
theorem X_X4_performMoving_b24 {p : Program} {l : Launch} {e : Env} {s : State} {m : MethodId} {args : Array Value} {below : List Frame} {meth : Method} {c : Code} {D : va_G} {cI cZ cJ : ClassId} {ad : Nat → Nat} {rest w0 : va_W} (C : XC p rm_X4_performMoving s m args meth c cX4_performMoving 4 none RX4 wsX4_performMoving D (t3 cI cZ cJ)) {S : St} {x1 x2 : Int32} {r : St} (h : X4_performMoving_b24 S x1 x2 = some r) : XW p l e rm_X4_performMoving s m args below meth c D w0 4 (MQ below (QV D (t3 cI cZ cJ) w0 (wE cI cZ ad r rest) s.heap.size) args s 0 0 (va_A w0 s.heap.size)) (wE cI cZ ad S rest) 0 0 24 [(0, .ref (ad 0)), (1, .int x1), (2, .int x2)] [] := by
  unfold X4_performMoving_b24 at h
  refine x_aload_n C 0 dX4_performMoving_24 rfl ?_
  refine x_iload_n C 1 dX4_performMoving_25 rfl ?_
  refine x_iload_n C 2 dX4_performMoving_26 rfl ?_
  obtain ⟨S27, hg27, h⟩ := ob h
  refine x_cv0 (x_runV C (As := [.int x1, .int x2]) (rest := []) (c_X4_settle hg27) (cw_X4_performMoving_X4_settle_115 C) 0 rfl rfl rfl (Nat.le_of_ble_eq_true rfl) dX4_performMoving_27 ⟨Nat.zero_le _, Nat.zero_le _⟩) ?_
  refine x_locals (lv' := []) [] rfl ?_
  exact X_X4_performMoving_b30 C h
def X4_performMoving (S : St) (x1 x2 x3 : Int32) : Option (St) :=
  (X4_has S x1).bind fun v2 => if v2 = 0 then (X4_performMoving_b30 S) else ((X4_isAtOrBelow S x2 x1).bind fun v11 => if v11 = 0 then (if inB x1 42 then (X4_performMoving_b24 (up S 4 (upd (S 4) x1.toNatClampNeg x3)) x1 x2) else none) else (X4_performMoving_b30 S))
set_option maxHeartbeats 4000000 in
set_option maxRecDepth 100000 in
theorem X_X4_performMoving {p : Program} {l : Launch} {e : Env} {s : State} {m : MethodId} {args : Array Value} {below : List Frame} {meth : Method} {c : Code} {D : va_G} {cI cZ cJ : ClassId} {ad : Nat → Nat} {rest w0 : va_W} (C : XC p rm_X4_performMoving s m args meth c cX4_performMoving 4 none RX4 wsX4_performMoving D (t3 cI cZ cJ)) {S : St} {x1 x2 x3 : Int32} {r : St} (h : X4_performMoving S x1 x2 x3 = some r) : XW p l e rm_X4_performMoving s m args below meth c D w0 4 (MQ below (QV D (t3 cI cZ cJ) w0 (wE cI cZ ad r rest) s.heap.size) args s 0 0 (va_A w0 s.heap.size)) (wE cI cZ ad S rest) 0 0 0 [(0, .ref (ad 0)), (1, .int x1), (2, .int x2), (3, .int x3)] [] := by
  unfold X4_performMoving at h
  refine x_aload_n C 0 dX4_performMoving_0 rfl ?_
  refine x_iload_n C 1 dX4_performMoving_1 rfl ?_
  obtain ⟨v2, hg2, h⟩ := ob h
  refine x_ci0 (x_runV C (As := [.int x1]) (rest := []) (c_X4_has hg2) (cw_X4_performMoving_X4_has_119 C) 0 rfl rfl rfl (Nat.le_of_ble_eq_true rfl) dX4_performMoving_2 ⟨Nat.zero_le _, Nat.zero_le _⟩) ?_
  refine x_if_eq C (t := 30) dX4_performMoving_5 (by decide) (fun c5 => ?_) (fun c5 => ?_)
  · replace h := (if_pos c5).symm.trans h
    refine x_locals (lv' := []) [] rfl ?_
    exact X_X4_performMoving_b30 C h
  · replace h := (if_neg c5).symm.trans h
    refine x_aload_n C 0 dX4_performMoving_8 rfl ?_
    refine x_iload_n C 2 dX4_performMoving_9 rfl ?_
    refine x_iload_n C 1 dX4_performMoving_10 rfl ?_
    obtain ⟨v11, hg11, h⟩ := ob h
    refine x_ci0 (x_runV C (As := [.int x2, .int x1]) (rest := []) (c_X4_isAtOrBelow hg11) (cw_X4_performMoving_X4_isAtOrBelow_127 C) 0 rfl rfl rfl (Nat.le_of_ble_eq_true rfl) dX4_performMoving_11 ⟨Nat.zero_le _, Nat.zero_le _⟩) ?_
    refine x_if_ne C (t := 30) dX4_performMoving_14 (by decide) (fun c14 => ?_) (fun c14 => ?_)
    · replace h := (if_neg c14).symm.trans h
      refine x_locals (lv' := []) [] rfl ?_
      exact X_X4_performMoving_b30 C h
    · replace h := (if_pos c14).symm.trans h
      refine x_aload_n C 0 dX4_performMoving_17 rfl ?_
      refine x_get C (R' := RX4) (T := TX4) (N := 11) (ci := 4) 0 7 rfl rfl (by decide) rfl rfl hi_X4_performMoving_4 lk_X4_performMoving_22 dX4_performMoving_18 ?_
      refine x_iload_n C 1 dX4_performMoving_21 rfl ?_
      refine x_iload_n C 3 dX4_performMoving_22 rfl ?_
      obtain ⟨g23, h⟩ := gdB h
      refine x_iast C 4 rfl g23 dX4_performMoving_23 (wE_s4 cI cZ ad S rest (upd (S 4) x1.toNatClampNeg x3)) ?_
      refine x_locals (lv' := [(0, .ref (ad 0)), (1, .int x1), (2, .int x2)]) [0, 1, 2] rfl ?_
      exact X_X4_performMoving_b24 C h
set_option maxRecDepth 100000 in
theorem c_X4_performMoving {l : Launch} {D : va_G} {cI cZ cJ : ClassId} {ad : Nat → Nat} {S : St} {rest : va_W} {x1 x2 x3 : Int32} {r : St} (h : X4_performMoving S x1 x2 x3 = some r) : ∀ sz, Met l yX4_performMoving wsX4_performMoving rm_X4_performMoving (PC D (t3 cI cZ cJ) [.ref (ad 0), .int x1, .int x2, .int x3] (wE cI cZ ad S rest) sz) (QV D (t3 cI cZ cJ) (wE cI cZ ad S rest) (wE cI cZ ad r rest) sz) 0 0 (va_A (wE cI cZ ad S rest) sz) := by
  refine x_met (Qc := fun sz => QV D (t3 cI cZ cJ) (wE cI cZ ad S rest) (wE cI cZ ad r rest) sz) RX4 rfl (by decide) rfl (Nat.le_of_ble_eq_true rfl) (fun p e s m args below meth c C => ?_)
  exact X_X4_performMoving C h
/-! EntryMasters$Tree.performDeleting(I)V -/
abbrev rm_X4_performDeleting : Room := { frames := 3, cells := 0, slots := 0, locals := 68 }
theorem hi_X4_performDeleting_4 : ∀ z ∈ u_ws RX4 TX4 11, z ∈ wsX4_performDeleting := by decide +kernel
theorem lk_X4_performDeleting_15 : Cond.fieldLink RX4 15 RX4 "there" "[Z" ∈ wsX4_performDeleting := by decide +kernel
theorem lk_X4_performDeleting_19 : Cond.fieldLink RX4 19 RX4 "parents" "[I" ∈ wsX4_performDeleting := by decide +kernel
theorem lk_X4_performDeleting_52 : Cond.fieldLink RX4 52 RX4 "size" "I" ∈ wsX4_performDeleting := by decide +kernel
theorem cw_X4_performDeleting_X4_has_119 {p : Program} {s : State} {m : MethodId} {args : Array Value} {meth : Method} {c : Code} {D : va_G} {tys : List (ClassId × FieldType)} {R : Room} (C : XC p R s m args meth c cX4_performDeleting 3 none RX4 wsX4_performDeleting D tys) : CallW rm_X4_performDeleting s args RX4 RX4 119 yX4_has cX4_has 2 (some .boolean) wsX4_has rm_X4_has 0 0 1 := cwV 1 C.2.2.2.2.1 gX4_performDeleting_X4_has rfl rfl rfl (by decide +kernel) ⟨Nat.le_of_ble_eq_true rfl, Nat.le_of_ble_eq_true rfl⟩
theorem cw_X4_performDeleting_X4_settle_115 {p : Program} {s : State} {m : MethodId} {args : Array Value} {meth : Method} {c : Code} {D : va_G} {tys : List (ClassId × FieldType)} {R : Room} (C : XC p R s m args meth c cX4_performDeleting 3 none RX4 wsX4_performDeleting D tys) : CallW rm_X4_performDeleting s args RX4 RX4 115 yX4_settle cX4_settle 4 none wsX4_settle rm_X4_settle 0 0 2 := cwV 2 C.2.2.2.2.1 gX4_performDeleting_X4_settle rfl rfl rfl (by decide +kernel) ⟨Nat.le_of_ble_eq_true rfl, Nat.le_of_ble_eq_true rfl⟩
def X4_performDeleting_b63 (S : St) : Option (St) :=
  some S
set_option maxHeartbeats 4000000 in
set_option maxRecDepth 100000 in
theorem X_X4_performDeleting_b63 {p : Program} {l : Launch} {e : Env} {s : State} {m : MethodId} {args : Array Value} {below : List Frame} {meth : Method} {c : Code} {D : va_G} {cI cZ cJ : ClassId} {ad : Nat → Nat} {rest w0 : va_W} (C : XC p rm_X4_performDeleting s m args meth c cX4_performDeleting 3 none RX4 wsX4_performDeleting D (t3 cI cZ cJ)) {S : St} {r : St} (h : X4_performDeleting_b63 S = some r) : XW p l e rm_X4_performDeleting s m args below meth c D w0 3 (MQ below (QV D (t3 cI cZ cJ) w0 (wE cI cZ ad r rest) s.heap.size) args s 0 0 (va_A w0 s.heap.size)) (wE cI cZ ad S rest) 0 0 63 [] [] := by
  unfold X4_performDeleting_b63 at h
  obtain rfl := Option.some.inj h
  exact x_vret C dX4_performDeleting_63
def X4_performDeleting_b57 (S : St) (x1 x2 : Int32) : Option ((St × Int32 × Int32) ⊕ (St)) :=
  some (.inl (S, x1, x2 + 1))
set_option maxHeartbeats 4000000 in
set_option maxRecDepth 100000 in
theorem X_X4_performDeleting_b57 {p : Program} {l : Launch} {e : Env} {s : State} {m : MethodId} {args : Array Value} {below : List Frame} {meth : Method} {c : Code} {D : va_G} {cI cZ cJ : ClassId} {ad : Nat → Nat} {rest w0 : va_W} (C : XC p rm_X4_performDeleting s m args meth c cX4_performDeleting 3 none RX4 wsX4_performDeleting D (t3 cI cZ cJ)) {S : St} {x1 x2 : Int32} {z : (St × Int32 × Int32) ⊕ (St)} {r : St} (h : X4_performDeleting_b57 S x1 x2 = some z) (hk : ∀ a' : (St × Int32 × Int32), z = .inl a' → XW p l e rm_X4_performDeleting s m args below meth c D w0 3 (MQ below (QV D (t3 cI cZ cJ) w0 (wE cI cZ ad r rest) s.heap.size) args s 0 0 (va_A w0 s.heap.size)) (wE cI cZ ad a'.1 rest) 0 0 35 [(0, .ref (ad 0)), (1, .int a'.2.1), (2, .int a'.2.2)] []) (hr : ∀ r', z = .inr r' → r' = r) : XW p l e rm_X4_performDeleting s m args below meth c D w0 3 (MQ below (QV D (t3 cI cZ cJ) w0 (wE cI cZ ad r rest) s.heap.size) args s 0 0 (va_A w0 s.heap.size)) (wE cI cZ ad S rest) 0 0 57 [(0, .ref (ad 0)), (1, .int x1), (2, .int x2)] [] := by
  unfold X4_performDeleting_b57 at h
  refine x_iinc C (v := x2 + 1) (lv' := [(0, .ref (ad 0)), (1, .int x1), (2, .int (x2 + 1))]) 2 dX4_performDeleting_57 rfl rfl (by decide) rfl ?_
  refine x_goto C (t := 35) dX4_performDeleting_60 (by decide) ?_
  exact hk _ (Option.some.inj h).symm
def X4_performDeleting_H35 (S : St) (x1 x2 : Int32) : Option ((St × Int32 × Int32) ⊕ (St)) :=
  if 42 ≤ x2 then (exI (X4_performDeleting_b63 S)) else (if inB x2 42 then (if (S 3 x2.toNatClampNeg) = x1 then ((X4_settle S x2 1).bind fun S54 => X4_performDeleting_b57 S54 x1 x2) else (X4_performDeleting_b57 S x1 x2)) else none)
set_option maxHeartbeats 4000000 in
set_option maxRecDepth 100000 in
theorem X_X4_performDeleting_H35 {p : Program} {l : Launch} {e : Env} {s : State} {m : MethodId} {args : Array Value} {below : List Frame} {meth : Method} {c : Code} {D : va_G} {cI cZ cJ : ClassId} {ad : Nat → Nat} {rest w0 : va_W} (C : XC p rm_X4_performDeleting s m args meth c cX4_performDeleting 3 none RX4 wsX4_performDeleting D (t3 cI cZ cJ)) {S : St} {x1 x2 : Int32} {z : (St × Int32 × Int32) ⊕ (St)} {r : St} (h : X4_performDeleting_H35 S x1 x2 = some z) (hk : ∀ a' : (St × Int32 × Int32), z = .inl a' → XW p l e rm_X4_performDeleting s m args below meth c D w0 3 (MQ below (QV D (t3 cI cZ cJ) w0 (wE cI cZ ad r rest) s.heap.size) args s 0 0 (va_A w0 s.heap.size)) (wE cI cZ ad a'.1 rest) 0 0 35 [(0, .ref (ad 0)), (1, .int a'.2.1), (2, .int a'.2.2)] []) (hr : ∀ r', z = .inr r' → r' = r) : XW p l e rm_X4_performDeleting s m args below meth c D w0 3 (MQ below (QV D (t3 cI cZ cJ) w0 (wE cI cZ ad r rest) s.heap.size) args s 0 0 (va_A w0 s.heap.size)) (wE cI cZ ad S rest) 0 0 35 [(0, .ref (ad 0)), (1, .int x1), (2, .int x2)] [] := by
  unfold X4_performDeleting_H35 at h
  refine x_iload_n C 2 dX4_performDeleting_35 rfl ?_
  refine x_bipush C (v := 42) dX4_performDeleting_36 (by decide) ?_
  refine x_icmp_ge C (t := 63) dX4_performDeleting_38 (by decide) (fun c38 => ?_) (fun c38 => ?_)
  · replace h := (if_pos c38).symm.trans h
    refine x_locals (lv' := []) [] rfl ?_
    obtain ⟨r1, h1, h2⟩ := exI_some h
    obtain rfl := hr r1 h2
    exact X_X4_performDeleting_b63 C h1
  · replace h := (if_neg c38).symm.trans h
    refine x_aload_n C 0 dX4_performDeleting_41 rfl ?_
    refine x_get C (R' := RX4) (T := TX4) (N := 11) (ci := 4) 0 6 rfl rfl (by decide) rfl rfl hi_X4_performDeleting_4 lk_X4_performDeleting_19 dX4_performDeleting_42 ?_
    refine x_iload_n C 2 dX4_performDeleting_45 rfl ?_
    obtain ⟨g46, h⟩ := gdB h
    refine x_iald C 3 rfl g46 dX4_performDeleting_46 ?_
    refine x_iload_n C 1 dX4_performDeleting_47 rfl ?_
    refine x_icmp_ne C (t := 57) dX4_performDeleting_48 (by decide) (fun c48 => ?_) (fun c48 => ?_)
    · replace h := (if_neg c48).symm.trans h
      exact X_X4_performDeleting_b57 C h hk hr
    · replace h := (if_pos c48).symm.trans h
      refine x_aload_n C 0 dX4_performDeleting_51 rfl ?_
      refine x_iload_n C 2 dX4_performDeleting_52 rfl ?_
      refine x_iconst C (v := 1) dX4_performDeleting_53 (by decide) ?_
      obtain ⟨S54, hg54, h⟩ := ob h
      refine x_cv0 (x_runV C (As := [.int x2, .int 1]) (rest := []) (c_X4_settle hg54) (cw_X4_performDeleting_X4_settle_115 C) 0 rfl rfl rfl (Nat.le_of_ble_eq_true rfl) dX4_performDeleting_54 ⟨Nat.zero_le _, Nat.zero_le _⟩) ?_
      exact X_X4_performDeleting_b57 C h hk hr
def X4_performDeleting_L35 (S : St) (x1 x2 : Int32) : Option (St) := wloop (fun a' : (St × Int32 × Int32) => X4_performDeleting_H35 a'.1 a'.2.1 a'.2.2) 1000 (S, x1, x2)
set_option maxHeartbeats 4000000 in
set_option maxRecDepth 100000 in
theorem X_X4_performDeleting_L35 {p : Program} {l : Launch} {e : Env} {s : State} {m : MethodId} {args : Array Value} {below : List Frame} {meth : Method} {c : Code} {D : va_G} {cI cZ cJ : ClassId} {ad : Nat → Nat} {rest w0 : va_W} (C : XC p rm_X4_performDeleting s m args meth c cX4_performDeleting 3 none RX4 wsX4_performDeleting D (t3 cI cZ cJ)) {S : St} {x1 x2 : Int32} {r : St} (h : X4_performDeleting_L35 S x1 x2 = some r) : XW p l e rm_X4_performDeleting s m args below meth c D w0 3 (MQ below (QV D (t3 cI cZ cJ) w0 (wE cI cZ ad r rest) s.heap.size) args s 0 0 (va_A w0 s.heap.size)) (wE cI cZ ad S rest) 0 0 35 [(0, .ref (ad 0)), (1, .int x1), (2, .int x2)] [] :=
  wloop_met (P := (fun a' : (St × Int32 × Int32) => XW p l e rm_X4_performDeleting s m args below meth c D w0 3 (MQ below (QV D (t3 cI cZ cJ) w0 (wE cI cZ ad r rest) s.heap.size) args s 0 0 (va_A w0 s.heap.size)) (wE cI cZ ad a'.1 rest) 0 0 35 [(0, .ref (ad 0)), (1, .int a'.2.1), (2, .int a'.2.2)] [])) (fun _ _ hz hk hr => X_X4_performDeleting_H35 C hz hk hr) 1000 (S, x1, x2) h
def X4_performDeleting_b33 (S : St) (x1 : Int32) : Option (St) :=
  X4_performDeleting_L35 S x1 0
set_option maxHeartbeats 4000000 in
set_option maxRecDepth 100000 in
theorem X_X4_performDeleting_b33 {p : Program} {l : Launch} {e : Env} {s : State} {m : MethodId} {args : Array Value} {below : List Frame} {meth : Method} {c : Code} {D : va_G} {cI cZ cJ : ClassId} {ad : Nat → Nat} {rest w0 : va_W} (C : XC p rm_X4_performDeleting s m args meth c cX4_performDeleting 3 none RX4 wsX4_performDeleting D (t3 cI cZ cJ)) {S : St} {x1 : Int32} {r : St} (h : X4_performDeleting_b33 S x1 = some r) : XW p l e rm_X4_performDeleting s m args below meth c D w0 3 (MQ below (QV D (t3 cI cZ cJ) w0 (wE cI cZ ad r rest) s.heap.size) args s 0 0 (va_A w0 s.heap.size)) (wE cI cZ ad S rest) 0 0 33 [(0, .ref (ad 0)), (1, .int x1)] [] := by
  unfold X4_performDeleting_b33 at h
  refine x_iconst C (v := 0) dX4_performDeleting_33 (by decide) ?_
  refine x_istore_n C (lv' := [(0, .ref (ad 0)), (1, .int x1), (2, .int 0)]) dX4_performDeleting_34 (by decide) rfl ?_
  exact X_X4_performDeleting_L35 C h
def X4_performDeleting_b23 (S : St) (x1 : Int32) : Option (St) :=
  X4_performDeleting_b33 (up S 0 (upd (S 0) 10 ((S 0 10) - 1))) x1
set_option maxHeartbeats 4000000 in
set_option maxRecDepth 100000 in
theorem X_X4_performDeleting_b23 {p : Program} {l : Launch} {e : Env} {s : State} {m : MethodId} {args : Array Value} {below : List Frame} {meth : Method} {c : Code} {D : va_G} {cI cZ cJ : ClassId} {ad : Nat → Nat} {rest w0 : va_W} (C : XC p rm_X4_performDeleting s m args meth c cX4_performDeleting 3 none RX4 wsX4_performDeleting D (t3 cI cZ cJ)) {S : St} {x1 : Int32} {r : St} (h : X4_performDeleting_b23 S x1 = some r) : XW p l e rm_X4_performDeleting s m args below meth c D w0 3 (MQ below (QV D (t3 cI cZ cJ) w0 (wE cI cZ ad r rest) s.heap.size) args s 0 0 (va_A w0 s.heap.size)) (wE cI cZ ad S rest) 0 0 23 [(0, .ref (ad 0)), (1, .int x1)] [] := by
  unfold X4_performDeleting_b23 at h
  refine x_aload_n C 0 dX4_performDeleting_23 rfl ?_
  refine x_dup C dX4_performDeleting_24 rfl ?_
  refine x_get C (R' := RX4) (T := TX4) (N := 11) (ci := 4) 0 10 rfl rfl (by decide) rfl rfl hi_X4_performDeleting_4 lk_X4_performDeleting_52 dX4_performDeleting_25 ?_
  refine x_iconst C (v := 1) dX4_performDeleting_28 (by decide) ?_
  refine x_isub C dX4_performDeleting_29 ?_
  refine x_put C (R' := RX4) (T := TX4) (N := 11) (ci := 4) tyX4 tyX4_ok nmX4 0 10 rfl rfl (by decide) rfl rfl (lt_ble rfl) rfl hi_X4_performDeleting_4 lk_X4_performDeleting_52 dX4_performDeleting_30 (wE_f0_10 cI cZ ad S rest ((S 0 10) - 1)) ?_
  exact X_X4_performDeleting_b33 C h
def X4_performDeleting_b16 (S : St) (x1 : Int32) : Option (St) :=
  if inB x1 42 then (X4_performDeleting_b23 (up S 3 (upd (S 3) x1.toNatClampNeg (-1))) x1) else none
set_option maxHeartbeats 4000000 in
set_option maxRecDepth 100000 in
theorem X_X4_performDeleting_b16 {p : Program} {l : Launch} {e : Env} {s : State} {m : MethodId} {args : Array Value} {below : List Frame} {meth : Method} {c : Code} {D : va_G} {cI cZ cJ : ClassId} {ad : Nat → Nat} {rest w0 : va_W} (C : XC p rm_X4_performDeleting s m args meth c cX4_performDeleting 3 none RX4 wsX4_performDeleting D (t3 cI cZ cJ)) {S : St} {x1 : Int32} {r : St} (h : X4_performDeleting_b16 S x1 = some r) : XW p l e rm_X4_performDeleting s m args below meth c D w0 3 (MQ below (QV D (t3 cI cZ cJ) w0 (wE cI cZ ad r rest) s.heap.size) args s 0 0 (va_A w0 s.heap.size)) (wE cI cZ ad S rest) 0 0 16 [(0, .ref (ad 0)), (1, .int x1)] [] := by
  unfold X4_performDeleting_b16 at h
  refine x_aload_n C 0 dX4_performDeleting_16 rfl ?_
  refine x_get C (R' := RX4) (T := TX4) (N := 11) (ci := 4) 0 6 rfl rfl (by decide) rfl rfl hi_X4_performDeleting_4 lk_X4_performDeleting_19 dX4_performDeleting_17 ?_
  refine x_iload_n C 1 dX4_performDeleting_20 rfl ?_
  refine x_iconst C (v := (-1)) dX4_performDeleting_21 (by decide) ?_
  obtain ⟨g22, h⟩ := gdB h
  refine x_iast C 3 rfl g22 dX4_performDeleting_22 (wE_s3 cI cZ ad S rest (upd (S 3) x1.toNatClampNeg (-1))) ?_
  exact X_X4_performDeleting_b23 C h
def X4_performDeleting (S : St) (x1 : Int32) : Option (St) :=
  (X4_has S x1).bind fun v2 => if v2 = 0 then (some S) else (if inB x1 42 then (X4_performDeleting_b16 (up S 2 (upd (S 2) x1.toNatClampNeg (vp_nar .boolean 0))) x1) else none)
set_option maxHeartbeats 4000000 in
set_option maxRecDepth 100000 in
theorem X_X4_performDeleting {p : Program} {l : Launch} {e : Env} {s : State} {m : MethodId} {args : Array Value} {below : List Frame} {meth : Method} {c : Code} {D : va_G} {cI cZ cJ : ClassId} {ad : Nat → Nat} {rest w0 : va_W} (C : XC p rm_X4_performDeleting s m args meth c cX4_performDeleting 3 none RX4 wsX4_performDeleting D (t3 cI cZ cJ)) {S : St} {x1 : Int32} {r : St} (h : X4_performDeleting S x1 = some r) : XW p l e rm_X4_performDeleting s m args below meth c D w0 3 (MQ below (QV D (t3 cI cZ cJ) w0 (wE cI cZ ad r rest) s.heap.size) args s 0 0 (va_A w0 s.heap.size)) (wE cI cZ ad S rest) 0 0 0 [(0, .ref (ad 0)), (1, .int x1)] [] := by
  unfold X4_performDeleting at h
  refine x_aload_n C 0 dX4_performDeleting_0 rfl ?_
  refine x_iload_n C 1 dX4_performDeleting_1 rfl ?_
  obtain ⟨v2, hg2, h⟩ := ob h
  refine x_ci0 (x_runV C (As := [.int x1]) (rest := []) (c_X4_has hg2) (cw_X4_performDeleting_X4_has_119 C) 0 rfl rfl rfl (Nat.le_of_ble_eq_true rfl) dX4_performDeleting_2 ⟨Nat.zero_le _, Nat.zero_le _⟩) ?_
  refine x_if_ne C (t := 9) dX4_performDeleting_5 (by decide) (fun c5 => ?_) (fun c5 => ?_)
  · replace h := (if_neg c5).symm.trans h
    refine x_aload_n C 0 dX4_performDeleting_9 rfl ?_
    refine x_get C (R' := RX4) (T := TX4) (N := 11) (ci := 4) 0 5 rfl rfl (by decide) rfl rfl hi_X4_performDeleting_4 lk_X4_performDeleting_15 dX4_performDeleting_10 ?_
    refine x_iload_n C 1 dX4_performDeleting_13 rfl ?_
    refine x_iconst C (v := 0) dX4_performDeleting_14 (by decide) ?_
    obtain ⟨g15, h⟩ := gdB h
    refine x_zast C 2 rfl g15 dX4_performDeleting_15 (wE_s2 cI cZ ad S rest (upd (S 2) x1.toNatClampNeg (vp_nar .boolean 0))) ?_
    exact X_X4_performDeleting_b16 C h
  · replace h := (if_pos c5).symm.trans h
    obtain rfl := Option.some.inj h
    exact x_vret C dX4_performDeleting_8
set_option maxRecDepth 100000 in
theorem c_X4_performDeleting {l : Launch} {D : va_G} {cI cZ cJ : ClassId} {ad : Nat → Nat} {S : St} {rest : va_W} {x1 : Int32} {r : St} (h : X4_performDeleting S x1 = some r) : ∀ sz, Met l yX4_performDeleting wsX4_performDeleting rm_X4_performDeleting (PC D (t3 cI cZ cJ) [.ref (ad 0), .int x1] (wE cI cZ ad S rest) sz) (QV D (t3 cI cZ cJ) (wE cI cZ ad S rest) (wE cI cZ ad r rest) sz) 0 0 (va_A (wE cI cZ ad S rest) sz) := by
  refine x_met (Qc := fun sz => QV D (t3 cI cZ cJ) (wE cI cZ ad S rest) (wE cI cZ ad r rest) sz) RX4 rfl (by decide) rfl (Nat.le_of_ble_eq_true rfl) (fun p e s m args below meth c C => ?_)
  exact X_X4_performDeleting C h
/-! EntryMasters$Tree.perform(I)V -/
abbrev rm_X4_perform : Room := { frames := 4, cells := 0, slots := 0, locals := 92 }
theorem hi_X4_perform_2 : ∀ z ∈ u_ws RX2 TX2 7, z ∈ wsX4_perform := by decide +kernel
theorem hi_X4_perform_4 : ∀ z ∈ u_ws RX4 TX4 11, z ∈ wsX4_perform := by decide +kernel
theorem lk_X4_perform_35 : Cond.fieldLink RX4 35 RX4 "log" "LEntryMasters$Log;" ∈ wsX4_perform := by decide +kernel
theorem cw_X4_perform_X4_performAdding_101 {p : Program} {s : State} {m : MethodId} {args : Array Value} {meth : Method} {c : Code} {D : va_G} {tys : List (ClassId × FieldType)} {R : Room} (C : XC p R s m args meth c cX4_perform 5 none RX4 wsX4_perform D tys) : CallW rm_X4_perform s args RX4 RX4 101 yX4_performAdding cX4_performAdding 5 none wsX4_performAdding rm_X4_performAdding 0 0 4 := cwV 4 C.2.2.2.2.1 gX4_perform_X4_performAdding rfl rfl rfl (by decide +kernel) ⟨Nat.le_of_ble_eq_true rfl, Nat.le_of_ble_eq_true rfl⟩
theorem cw_X4_perform_X4_performDeleting_112 {p : Program} {s : State} {m : MethodId} {args : Array Value} {meth : Method} {c : Code} {D : va_G} {tys : List (ClassId × FieldType)} {R : Room} (C : XC p R s m args meth c cX4_perform 5 none RX4 wsX4_perform D tys) : CallW rm_X4_perform s args RX4 RX4 112 yX4_performDeleting cX4_performDeleting 3 none wsX4_performDeleting rm_X4_performDeleting 0 0 1 := cwV 1 C.2.2.2.2.1 gX4_perform_X4_performDeleting rfl rfl rfl (by decide +kernel) ⟨Nat.le_of_ble_eq_true rfl, Nat.le_of_ble_eq_true rfl⟩
theorem cw_X4_perform_X4_performMoving_109 {p : Program} {s : State} {m : MethodId} {args : Array Value} {meth : Method} {c : Code} {D : va_G} {tys : List (ClassId × FieldType)} {R : Room} (C : XC p R s m args meth c cX4_perform 5 none RX4 wsX4_perform D tys) : CallW rm_X4_perform s args RX4 RX4 109 yX4_performMoving cX4_performMoving 4 none wsX4_performMoving rm_X4_performMoving 0 0 3 := cwV 3 C.2.2.2.2.1 gX4_perform_X4_performMoving rfl rfl rfl (by decide +kernel) ⟨Nat.le_of_ble_eq_true rfl, Nat.le_of_ble_eq_true rfl⟩
theorem cw_X4_perform_X4_performSetting_105 {p : Program} {s : State} {m : MethodId} {args : Array Value} {meth : Method} {c : Code} {D : va_G} {tys : List (ClassId × FieldType)} {R : Room} (C : XC p R s m args meth c cX4_perform 5 none RX4 wsX4_perform D tys) : CallW rm_X4_perform s args RX4 RX4 105 yX4_performSetting cX4_performSetting 4 none wsX4_performSetting rm_X4_performSetting 0 0 3 := cwV 3 C.2.2.2.2.1 gX4_perform_X4_performSetting rfl rfl rfl (by decide +kernel) ⟨Nat.le_of_ble_eq_true rfl, Nat.le_of_ble_eq_true rfl⟩
theorem cw_X4_perform_X5_at_58 {p : Program} {s : State} {m : MethodId} {args : Array Value} {meth : Method} {c : Code} {D : va_G} {tys : List (ClassId × FieldType)} {R : Room} (C : XC p R s m args meth c cX4_perform 5 none RX4 wsX4_perform D tys) : va_CN rm_X4_perform s args RX4 58 yX5_at RX5 cX5_at 2 (some .int) wsX5_at rm_X5_at 0 0 2 ∧ (Cond.static yX5_at).before args s = true ∧ True := ⟨va_cnB 2 C.2.2.2.2.1 gX4_perform_X5_at_n58 rfl rfl rfl (C.2.2.2.2.2.2.1.1 _ (nm_mem 9 rfl)) (C.2.2.2.2.1 (.initialized RX5) (by decide +kernel)) (by decide +kernel) ⟨Nat.le_of_ble_eq_true rfl, Nat.le_of_ble_eq_true rfl⟩, C.2.2.2.2.1 (.static yX5_at) (by decide +kernel), trivial⟩
def X4_perform_b132 (S : St) : Option (St) :=
  some S
set_option maxHeartbeats 4000000 in
set_option maxRecDepth 100000 in
theorem X_X4_perform_b132 {p : Program} {l : Launch} {e : Env} {s : State} {m : MethodId} {args : Array Value} {below : List Frame} {meth : Method} {c : Code} {D : va_G} {cI cZ cJ : ClassId} {ad : Nat → Nat} {rest w0 : va_W} (C : XC p rm_X4_perform s m args meth c cX4_perform 5 none RX4 wsX4_perform D (t3 cI cZ cJ)) {S : St} {r : St} (h : X4_perform_b132 S = some r) : XW p l e rm_X4_perform s m args below meth c D w0 5 (MQ below (QV D (t3 cI cZ cJ) w0 (wE cI cZ ad r rest) s.heap.size) args s 0 0 (va_A w0 s.heap.size)) (wE cI cZ ad S rest) 0 0 132 [] [] := by
  unfold X4_perform_b132 at h
  obtain rfl := Option.some.inj h
  exact x_vret C dX4_perform_132
def X4_perform_b99 (S : St) : Option (St) :=
  X4_perform_b132 S
set_option maxHeartbeats 4000000 in
set_option maxRecDepth 100000 in
theorem X_X4_perform_b99 {p : Program} {l : Launch} {e : Env} {s : State} {m : MethodId} {args : Array Value} {below : List Frame} {meth : Method} {c : Code} {D : va_G} {cI cZ cJ : ClassId} {ad : Nat → Nat} {rest w0 : va_W} (C : XC p rm_X4_perform s m args meth c cX4_perform 5 none RX4 wsX4_perform D (t3 cI cZ cJ)) {S : St} {r : St} (h : X4_perform_b99 S = some r) : XW p l e rm_X4_perform s m args below meth c D w0 5 (MQ below (QV D (t3 cI cZ cJ) w0 (wE cI cZ ad r rest) s.heap.size) args s 0 0 (va_A w0 s.heap.size)) (wE cI cZ ad S rest) 0 0 99 [] [] := by
  unfold X4_perform_b99 at h
  refine x_goto C (t := 132) dX4_perform_99 (by decide) ?_
  exact X_X4_perform_b132 C h
def X4_perform_b110 (S : St) : Option (St) :=
  X4_perform_b132 S
set_option maxHeartbeats 4000000 in
set_option maxRecDepth 100000 in
theorem X_X4_perform_b110 {p : Program} {l : Launch} {e : Env} {s : State} {m : MethodId} {args : Array Value} {below : List Frame} {meth : Method} {c : Code} {D : va_G} {cI cZ cJ : ClassId} {ad : Nat → Nat} {rest w0 : va_W} (C : XC p rm_X4_perform s m args meth c cX4_perform 5 none RX4 wsX4_perform D (t3 cI cZ cJ)) {S : St} {r : St} (h : X4_perform_b110 S = some r) : XW p l e rm_X4_perform s m args below meth c D w0 5 (MQ below (QV D (t3 cI cZ cJ) w0 (wE cI cZ ad r rest) s.heap.size) args s 0 0 (va_A w0 s.heap.size)) (wE cI cZ ad S rest) 0 0 110 [] [] := by
  unfold X4_perform_b110 at h
  refine x_goto C (t := 132) dX4_perform_110 (by decide) ?_
  exact X_X4_perform_b132 C h
def X4_perform_b121 (S : St) : Option (St) :=
  X4_perform_b132 S
set_option maxHeartbeats 4000000 in
set_option maxRecDepth 100000 in
theorem X_X4_perform_b121 {p : Program} {l : Launch} {e : Env} {s : State} {m : MethodId} {args : Array Value} {below : List Frame} {meth : Method} {c : Code} {D : va_G} {cI cZ cJ : ClassId} {ad : Nat → Nat} {rest w0 : va_W} (C : XC p rm_X4_perform s m args meth c cX4_perform 5 none RX4 wsX4_perform D (t3 cI cZ cJ)) {S : St} {r : St} (h : X4_perform_b121 S = some r) : XW p l e rm_X4_perform s m args below meth c D w0 5 (MQ below (QV D (t3 cI cZ cJ) w0 (wE cI cZ ad r rest) s.heap.size) args s 0 0 (va_A w0 s.heap.size)) (wE cI cZ ad S rest) 0 0 121 [] [] := by
  unfold X4_perform_b121 at h
  refine x_goto C (t := 132) dX4_perform_121 (by decide) ?_
  exact X_X4_perform_b132 C h
def X4_perform_b129 (S : St) : Option (St) :=
  X4_perform_b132 S
set_option maxHeartbeats 4000000 in
set_option maxRecDepth 100000 in
theorem X_X4_perform_b129 {p : Program} {l : Launch} {e : Env} {s : State} {m : MethodId} {args : Array Value} {below : List Frame} {meth : Method} {c : Code} {D : va_G} {cI cZ cJ : ClassId} {ad : Nat → Nat} {rest w0 : va_W} (C : XC p rm_X4_perform s m args meth c cX4_perform 5 none RX4 wsX4_perform D (t3 cI cZ cJ)) {S : St} {r : St} (h : X4_perform_b129 S = some r) : XW p l e rm_X4_perform s m args below meth c D w0 5 (MQ below (QV D (t3 cI cZ cJ) w0 (wE cI cZ ad r rest) s.heap.size) args s 0 0 (va_A w0 s.heap.size)) (wE cI cZ ad S rest) 0 0 129 [] [] := by
  unfold X4_perform_b129 at h
  refine x_goto C (t := 132) dX4_perform_129 (by decide) ?_
  exact X_X4_perform_b132 C h
def X4_perform (S : St) (x1 : Int32) : Option (St) :=
  (X5_at 40 (S 17) x1).bind fun v8 => (X5_at 40 (S 18) x1).bind fun v20 => (X5_at 40 (S 19) x1).bind fun v32 => (X5_at 40 (S 15) x1).bind fun v45 => if v45 = 0 then ((X5_at 40 (S 20) x1).bind fun v93 => (X4_performAdding S v8 v20 v32 v93).bind fun S96 => X4_perform_b99 S96) else (if v45 = 1 then ((X4_performSetting S v8 v20 v32).bind fun S107 => X4_perform_b110 S107) else (if v45 = 2 then ((X4_performMoving S v8 v20 v32).bind fun S118 => X4_perform_b121 S118) else (if v45 = 3 then ((X4_performDeleting S v8).bind fun S126 => X4_perform_b129 S126) else (X4_perform_b132 S))))
set_option maxHeartbeats 4000000 in
set_option maxRecDepth 100000 in
theorem X_X4_perform {p : Program} {l : Launch} {e : Env} {s : State} {m : MethodId} {args : Array Value} {below : List Frame} {meth : Method} {c : Code} {D : va_G} {cI cZ cJ : ClassId} {ad : Nat → Nat} {rest w0 : va_W} (C : XC p rm_X4_perform s m args meth c cX4_perform 5 none RX4 wsX4_perform D (t3 cI cZ cJ)) {S : St} {x1 : Int32} {r : St} (h : X4_perform S x1 = some r) : XW p l e rm_X4_perform s m args below meth c D w0 5 (MQ below (QV D (t3 cI cZ cJ) w0 (wE cI cZ ad r rest) s.heap.size) args s 0 0 (va_A w0 s.heap.size)) (wE cI cZ ad S rest) 0 0 0 [(0, .ref (ad 0)), (1, .int x1)] [] := by
  unfold X4_perform at h
  refine x_aload_n C 0 dX4_perform_0 rfl ?_
  refine x_get C (R' := RX4) (T := TX4) (N := 11) (ci := 4) 0 1 rfl rfl (by decide) rfl rfl hi_X4_perform_4 lk_X4_perform_35 dX4_perform_1 ?_
  refine x_getN C (R' := RX2) (T := TX2) (N := 7) (ci := 2) 14 2 rfl rfl (by decide) rfl rfl hi_X4_perform_2 (nf_mem 3 rfl) dX4_perform_4 ?_
  refine x_iload_n C 1 dX4_perform_7 rfl ?_
  obtain ⟨v8, hg8, h⟩ := ob h
  refine x_ci0 (x_runSN C (As := [.ref (ad 17), .int x1]) (rest := []) (c_X5_at 17 rfl hg8) (cw_X4_perform_X5_at_58 C) rfl (Nat.le_of_ble_eq_true rfl) dX4_perform_8 ⟨Nat.zero_le _, Nat.zero_le _⟩) ?_
  refine x_istore_n C (lv' := [(0, .ref (ad 0)), (1, .int x1), (2, .int v8)]) dX4_perform_11 (by decide) rfl ?_
  refine x_aload_n C 0 dX4_perform_12 rfl ?_
  refine x_get C (R' := RX4) (T := TX4) (N := 11) (ci := 4) 0 1 rfl rfl (by decide) rfl rfl hi_X4_perform_4 lk_X4_perform_35 dX4_perform_13 ?_
  refine x_getN C (R' := RX2) (T := TX2) (N := 7) (ci := 2) 14 3 rfl rfl (by decide) rfl rfl hi_X4_perform_2 (nf_mem 4 rfl) dX4_perform_16 ?_
  refine x_iload_n C 1 dX4_perform_19 rfl ?_
  obtain ⟨v20, hg20, h⟩ := ob h
  refine x_ci0 (x_runSN C (As := [.ref (ad 18), .int x1]) (rest := []) (c_X5_at 18 rfl hg20) (cw_X4_perform_X5_at_58 C) rfl (Nat.le_of_ble_eq_true rfl) dX4_perform_20 ⟨Nat.zero_le _, Nat.zero_le _⟩) ?_
  refine x_istore_n C (lv' := [(0, .ref (ad 0)), (1, .int x1), (2, .int v8), (3, .int v20)]) dX4_perform_23 (by decide) rfl ?_
  refine x_aload_n C 0 dX4_perform_24 rfl ?_
  refine x_get C (R' := RX4) (T := TX4) (N := 11) (ci := 4) 0 1 rfl rfl (by decide) rfl rfl hi_X4_perform_4 lk_X4_perform_35 dX4_perform_25 ?_
  refine x_getN C (R' := RX2) (T := TX2) (N := 7) (ci := 2) 14 4 rfl rfl (by decide) rfl rfl hi_X4_perform_2 (nf_mem 5 rfl) dX4_perform_28 ?_
  refine x_iload_n C 1 dX4_perform_31 rfl ?_
  obtain ⟨v32, hg32, h⟩ := ob h
  refine x_ci0 (x_runSN C (As := [.ref (ad 19), .int x1]) (rest := []) (c_X5_at 19 rfl hg32) (cw_X4_perform_X5_at_58 C) rfl (Nat.le_of_ble_eq_true rfl) dX4_perform_32 ⟨Nat.zero_le _, Nat.zero_le _⟩) ?_
  refine x_istore C (lv' := [(0, .ref (ad 0)), (1, .int x1), (2, .int v8), (3, .int v20), (4, .int v32)]) dX4_perform_35 (by decide) rfl ?_
  refine x_aload_n C 0 dX4_perform_37 rfl ?_
  refine x_get C (R' := RX4) (T := TX4) (N := 11) (ci := 4) 0 1 rfl rfl (by decide) rfl rfl hi_X4_perform_4 lk_X4_perform_35 dX4_perform_38 ?_
  refine x_getN C (R' := RX2) (T := TX2) (N := 7) (ci := 2) 14 0 rfl rfl (by decide) rfl rfl hi_X4_perform_2 (nf_mem 6 rfl) dX4_perform_41 ?_
  refine x_iload_n C 1 dX4_perform_44 rfl ?_
  obtain ⟨v45, hg45, h⟩ := ob h
  refine x_ci0 (x_runSN C (As := [.ref (ad 15), .int x1]) (rest := []) (c_X5_at 15 rfl hg45) (cw_X4_perform_X5_at_58 C) rfl (Nat.le_of_ble_eq_true rfl) dX4_perform_45 ⟨Nat.zero_le _, Nat.zero_le _⟩) ?_
  by_cases c48_0 : v45 = 0
  · replace h := (if_pos c48_0).symm.trans h
    refine x_tableIn C (t := 80) dX4_perform_48 (v := 0) (by rw [c48_0]; decide) (by decide) (by decide) rfl (by decide) ?_
    refine x_aload_n C 0 dX4_perform_80 rfl ?_
    refine x_iload_n C 2 dX4_perform_81 rfl ?_
    refine x_iload_n C 3 dX4_perform_82 rfl ?_
    refine x_iload C 4 dX4_perform_83 rfl ?_
    refine x_aload_n C 0 dX4_perform_85 rfl ?_
    refine x_get C (R' := RX4) (T := TX4) (N := 11) (ci := 4) 0 1 rfl rfl (by decide) rfl rfl hi_X4_perform_4 lk_X4_perform_35 dX4_perform_86 ?_
    refine x_getN C (R' := RX2) (T := TX2) (N := 7) (ci := 2) 14 5 rfl rfl (by decide) rfl rfl hi_X4_perform_2 (nf_mem 7 rfl) dX4_perform_89 ?_
    refine x_iload_n C 1 dX4_perform_92 rfl ?_
    obtain ⟨v93, hg93, h⟩ := ob h
    refine x_ci0 (x_runSN C (As := [.ref (ad 20), .int x1]) (rest := [.int v32, .int v20, .int v8, .ref (ad 0)]) (c_X5_at 20 rfl hg93) (cw_X4_perform_X5_at_58 C) rfl (Nat.le_of_ble_eq_true rfl) dX4_perform_93 ⟨Nat.zero_le _, Nat.zero_le _⟩) ?_
    obtain ⟨S96, hg96, h⟩ := ob h
    refine x_cv0 (x_runV C (As := [.int v8, .int v20, .int v32, .int v93]) (rest := []) (c_X4_performAdding hg96) (cw_X4_perform_X4_performAdding_101 C) 0 rfl rfl rfl (Nat.le_of_ble_eq_true rfl) dX4_perform_96 ⟨Nat.zero_le _, Nat.zero_le _⟩) ?_
    refine x_locals (lv' := []) [] rfl ?_
    exact X_X4_perform_b99 C h
  · replace h := (if_neg c48_0).symm.trans h
    by_cases c48_1 : v45 = 1
    · replace h := (if_pos c48_1).symm.trans h
      refine x_tableIn C (t := 102) dX4_perform_48 (v := 1) (by rw [c48_1]; decide) (by decide) (by decide) rfl (by decide) ?_
      refine x_aload_n C 0 dX4_perform_102 rfl ?_
      refine x_iload_n C 2 dX4_perform_103 rfl ?_
      refine x_iload_n C 3 dX4_perform_104 rfl ?_
      refine x_iload C 4 dX4_perform_105 rfl ?_
      obtain ⟨S107, hg107, h⟩ := ob h
      refine x_cv0 (x_runV C (As := [.int v8, .int v20, .int v32]) (rest := []) (c_X4_performSetting hg107) (cw_X4_perform_X4_performSetting_105 C) 0 rfl rfl rfl (Nat.le_of_ble_eq_true rfl) dX4_perform_107 ⟨Nat.zero_le _, Nat.zero_le _⟩) ?_
      refine x_locals (lv' := []) [] rfl ?_
      exact X_X4_perform_b110 C h
    · replace h := (if_neg c48_1).symm.trans h
      by_cases c48_2 : v45 = 2
      · replace h := (if_pos c48_2).symm.trans h
        refine x_tableIn C (t := 113) dX4_perform_48 (v := 2) (by rw [c48_2]; decide) (by decide) (by decide) rfl (by decide) ?_
        refine x_aload_n C 0 dX4_perform_113 rfl ?_
        refine x_iload_n C 2 dX4_perform_114 rfl ?_
        refine x_iload_n C 3 dX4_perform_115 rfl ?_
        refine x_iload C 4 dX4_perform_116 rfl ?_
        obtain ⟨S118, hg118, h⟩ := ob h
        refine x_cv0 (x_runV C (As := [.int v8, .int v20, .int v32]) (rest := []) (c_X4_performMoving hg118) (cw_X4_perform_X4_performMoving_109 C) 0 rfl rfl rfl (Nat.le_of_ble_eq_true rfl) dX4_perform_118 ⟨Nat.zero_le _, Nat.zero_le _⟩) ?_
        refine x_locals (lv' := []) [] rfl ?_
        exact X_X4_perform_b121 C h
      · replace h := (if_neg c48_2).symm.trans h
        by_cases c48_3 : v45 = 3
        · replace h := (if_pos c48_3).symm.trans h
          refine x_tableIn C (t := 124) dX4_perform_48 (v := 3) (by rw [c48_3]; decide) (by decide) (by decide) rfl (by decide) ?_
          refine x_aload_n C 0 dX4_perform_124 rfl ?_
          refine x_iload_n C 2 dX4_perform_125 rfl ?_
          obtain ⟨S126, hg126, h⟩ := ob h
          refine x_cv0 (x_runV C (As := [.int v8]) (rest := []) (c_X4_performDeleting hg126) (cw_X4_perform_X4_performDeleting_112 C) 0 rfl rfl rfl (Nat.le_of_ble_eq_true rfl) dX4_perform_126 ⟨Nat.zero_le _, Nat.zero_le _⟩) ?_
          refine x_locals (lv' := []) [] rfl ?_
          exact X_X4_perform_b129 C h
        · replace h := (if_neg c48_3).symm.trans h
          refine x_tableOut C (t := 132) dX4_perform_48 (sw_out4_0 c48_0 c48_1 c48_2 c48_3) (by decide) ?_
          refine x_locals (lv' := []) [] rfl ?_
          exact X_X4_perform_b132 C h
set_option maxRecDepth 100000 in
theorem c_X4_perform {l : Launch} {D : va_G} {cI cZ cJ : ClassId} {ad : Nat → Nat} {S : St} {rest : va_W} {x1 : Int32} {r : St} (h : X4_perform S x1 = some r) : ∀ sz, Met l yX4_perform wsX4_perform rm_X4_perform (PC D (t3 cI cZ cJ) [.ref (ad 0), .int x1] (wE cI cZ ad S rest) sz) (QV D (t3 cI cZ cJ) (wE cI cZ ad S rest) (wE cI cZ ad r rest) sz) 0 0 (va_A (wE cI cZ ad S rest) sz) := by
  refine x_met (Qc := fun sz => QV D (t3 cI cZ cJ) (wE cI cZ ad S rest) (wE cI cZ ad r rest) sz) RX4 rfl (by decide) rfl (Nat.le_of_ble_eq_true rfl) (fun p e s m args below meth c C => ?_)
  exact X_X4_perform C h
/-! EntryMasters$Tree.learn(I)V -/
abbrev rm_X4_learn : Room := { frames := 5, cells := 0, slots := 0, locals := 116 }
theorem hi_X4_learn_4 : ∀ z ∈ u_ws RX4 TX4 11, z ∈ wsX4_learn := by decide +kernel
theorem lk_X4_learn_9 : Cond.fieldLink RX4 9 RX4 "known" "[I" ∈ wsX4_learn := by decide +kernel
theorem lk_X4_learn_55 : Cond.fieldLink RX4 55 RX4 "knownCount" "I" ∈ wsX4_learn := by decide +kernel
theorem cw_X4_learn_X4_clear_43 {p : Program} {s : State} {m : MethodId} {args : Array Value} {meth : Method} {c : Code} {D : va_G} {tys : List (ClassId × FieldType)} {R : Room} (C : XC p R s m args meth c cX4_learn 3 none RX4 wsX4_learn D tys) : CallW rm_X4_learn s args RX4 RX4 43 yX4_clear cX4_clear 2 none wsX4_clear rm_X4_clear 0 0 0 := cwV 0 C.2.2.2.2.1 gX4_learn_X4_clear rfl rfl rfl (by decide +kernel) ⟨Nat.le_of_ble_eq_true rfl, Nat.le_of_ble_eq_true rfl⟩
theorem cw_X4_learn_X4_perform_75 {p : Program} {s : State} {m : MethodId} {args : Array Value} {meth : Method} {c : Code} {D : va_G} {tys : List (ClassId × FieldType)} {R : Room} (C : XC p R s m args meth c cX4_learn 3 none RX4 wsX4_learn D tys) : CallW rm_X4_learn s args RX4 RX4 75 yX4_perform cX4_perform 5 none wsX4_perform rm_X4_perform 0 0 1 := cwV 1 C.2.2.2.2.1 gX4_learn_X4_perform rfl rfl rfl (by decide +kernel) ⟨Nat.le_of_ble_eq_true rfl, Nat.le_of_ble_eq_true rfl⟩
theorem cw_X4_learn_X4_putInOrder_72 {p : Program} {s : State} {m : MethodId} {args : Array Value} {meth : Method} {c : Code} {D : va_G} {tys : List (ClassId × FieldType)} {R : Room} (C : XC p R s m args meth c cX4_learn 3 none RX4 wsX4_learn D tys) : CallW rm_X4_learn s args RX4 RX4 72 yX4_putInOrder cX4_putInOrder 3 (some .int) wsX4_putInOrder rm_X4_putInOrder 0 0 1 := cwV 1 C.2.2.2.2.1 gX4_learn_X4_putInOrder rfl rfl rfl (by decide +kernel) ⟨Nat.le_of_ble_eq_true rfl, Nat.le_of_ble_eq_true rfl⟩
def X4_learn_b62 (S : St) : Option (St) :=
  some S
set_option maxHeartbeats 4000000 in
set_option maxRecDepth 100000 in
theorem X_X4_learn_b62 {p : Program} {l : Launch} {e : Env} {s : State} {m : MethodId} {args : Array Value} {below : List Frame} {meth : Method} {c : Code} {D : va_G} {cI cZ cJ : ClassId} {ad : Nat → Nat} {rest w0 : va_W} (C : XC p rm_X4_learn s m args meth c cX4_learn 3 none RX4 wsX4_learn D (t3 cI cZ cJ)) {S : St} {r : St} (h : X4_learn_b62 S = some r) : XW p l e rm_X4_learn s m args below meth c D w0 3 (MQ below (QV D (t3 cI cZ cJ) w0 (wE cI cZ ad r rest) s.heap.size) args s 0 0 (va_A w0 s.heap.size)) (wE cI cZ ad S rest) 0 0 62 [] [] := by
  unfold X4_learn_b62 at h
  obtain rfl := Option.some.inj h
  exact x_vret C dX4_learn_62
def X4_learn_b56 (S : St) (x2 : Int32) : Option ((St × Int32) ⊕ (St)) :=
  some (.inl (S, x2 + 1))
set_option maxHeartbeats 4000000 in
set_option maxRecDepth 100000 in
theorem X_X4_learn_b56 {p : Program} {l : Launch} {e : Env} {s : State} {m : MethodId} {args : Array Value} {below : List Frame} {meth : Method} {c : Code} {D : va_G} {cI cZ cJ : ClassId} {ad : Nat → Nat} {rest w0 : va_W} (C : XC p rm_X4_learn s m args meth c cX4_learn 3 none RX4 wsX4_learn D (t3 cI cZ cJ)) {S : St} {x2 : Int32} {z : (St × Int32) ⊕ (St)} {r : St} (h : X4_learn_b56 S x2 = some z) (hk : ∀ a' : (St × Int32), z = .inl a' → XW p l e rm_X4_learn s m args below meth c D w0 3 (MQ below (QV D (t3 cI cZ cJ) w0 (wE cI cZ ad r rest) s.heap.size) args s 0 0 (va_A w0 s.heap.size)) (wE cI cZ ad a'.1 rest) 0 0 32 [(0, .ref (ad 0)), (2, .int a'.2)] []) (hr : ∀ r', z = .inr r' → r' = r) : XW p l e rm_X4_learn s m args below meth c D w0 3 (MQ below (QV D (t3 cI cZ cJ) w0 (wE cI cZ ad r rest) s.heap.size) args s 0 0 (va_A w0 s.heap.size)) (wE cI cZ ad S rest) 0 0 56 [(0, .ref (ad 0)), (2, .int x2)] [] := by
  unfold X4_learn_b56 at h
  refine x_iinc C (v := x2 + 1) (lv' := [(0, .ref (ad 0)), (2, .int (x2 + 1))]) 1 dX4_learn_56 rfl rfl (by decide) rfl ?_
  refine x_goto C (t := 32) dX4_learn_59 (by decide) ?_
  exact hk _ (Option.some.inj h).symm
def X4_learn_H32 (S : St) (x2 : Int32) : Option ((St × Int32) ⊕ (St)) :=
  if (S 0 4) ≤ x2 then (exI (X4_learn_b62 S)) else (if 40 ≤ x2 then (exI (X4_learn_b62 S)) else (if inB x2 40 then ((X4_perform S (S 1 x2.toNatClampNeg)).bind fun S53 => X4_learn_b56 S53 x2) else none))
set_option maxHeartbeats 4000000 in
set_option maxRecDepth 100000 in
theorem X_X4_learn_H32 {p : Program} {l : Launch} {e : Env} {s : State} {m : MethodId} {args : Array Value} {below : List Frame} {meth : Method} {c : Code} {D : va_G} {cI cZ cJ : ClassId} {ad : Nat → Nat} {rest w0 : va_W} (C : XC p rm_X4_learn s m args meth c cX4_learn 3 none RX4 wsX4_learn D (t3 cI cZ cJ)) {S : St} {x2 : Int32} {z : (St × Int32) ⊕ (St)} {r : St} (h : X4_learn_H32 S x2 = some z) (hk : ∀ a' : (St × Int32), z = .inl a' → XW p l e rm_X4_learn s m args below meth c D w0 3 (MQ below (QV D (t3 cI cZ cJ) w0 (wE cI cZ ad r rest) s.heap.size) args s 0 0 (va_A w0 s.heap.size)) (wE cI cZ ad a'.1 rest) 0 0 32 [(0, .ref (ad 0)), (2, .int a'.2)] []) (hr : ∀ r', z = .inr r' → r' = r) : XW p l e rm_X4_learn s m args below meth c D w0 3 (MQ below (QV D (t3 cI cZ cJ) w0 (wE cI cZ ad r rest) s.heap.size) args s 0 0 (va_A w0 s.heap.size)) (wE cI cZ ad S rest) 0 0 32 [(0, .ref (ad 0)), (2, .int x2)] [] := by
  unfold X4_learn_H32 at h
  refine x_iload_n C 1 dX4_learn_32 rfl ?_
  refine x_aload_n C 0 dX4_learn_33 rfl ?_
  refine x_get C (R' := RX4) (T := TX4) (N := 11) (ci := 4) 0 4 rfl rfl (by decide) rfl rfl hi_X4_learn_4 lk_X4_learn_55 dX4_learn_34 ?_
  refine x_icmp_ge C (t := 62) dX4_learn_37 (by decide) (fun c37 => ?_) (fun c37 => ?_)
  · replace h := (if_pos c37).symm.trans h
    refine x_locals (lv' := []) [] rfl ?_
    obtain ⟨r1, h1, h2⟩ := exI_some h
    obtain rfl := hr r1 h2
    exact X_X4_learn_b62 C h1
  · replace h := (if_neg c37).symm.trans h
    refine x_iload_n C 1 dX4_learn_40 rfl ?_
    refine x_bipush C (v := 40) dX4_learn_41 (by decide) ?_
    refine x_icmp_ge C (t := 62) dX4_learn_43 (by decide) (fun c43 => ?_) (fun c43 => ?_)
    · replace h := (if_pos c43).symm.trans h
      refine x_locals (lv' := []) [] rfl ?_
      obtain ⟨r1, h1, h2⟩ := exI_some h
      obtain rfl := hr r1 h2
      exact X_X4_learn_b62 C h1
    · replace h := (if_neg c43).symm.trans h
      refine x_aload_n C 0 dX4_learn_46 rfl ?_
      refine x_aload_n C 0 dX4_learn_47 rfl ?_
      refine x_get C (R' := RX4) (T := TX4) (N := 11) (ci := 4) 0 3 rfl rfl (by decide) rfl rfl hi_X4_learn_4 lk_X4_learn_9 dX4_learn_48 ?_
      refine x_iload_n C 1 dX4_learn_51 rfl ?_
      obtain ⟨g52, h⟩ := gdB h
      refine x_iald C 1 rfl g52 dX4_learn_52 ?_
      obtain ⟨S53, hg53, h⟩ := ob h
      refine x_cv0 (x_runV C (As := [.int (S 1 x2.toNatClampNeg)]) (rest := []) (c_X4_perform hg53) (cw_X4_learn_X4_perform_75 C) 0 rfl rfl rfl (Nat.le_of_ble_eq_true rfl) dX4_learn_53 ⟨Nat.zero_le _, Nat.zero_le _⟩) ?_
      exact X_X4_learn_b56 C h hk hr
def X4_learn_L32 (S : St) (x2 : Int32) : Option (St) := wloop (fun a' : (St × Int32) => X4_learn_H32 a'.1 a'.2) 1000 (S, x2)
set_option maxHeartbeats 4000000 in
set_option maxRecDepth 100000 in
theorem X_X4_learn_L32 {p : Program} {l : Launch} {e : Env} {s : State} {m : MethodId} {args : Array Value} {below : List Frame} {meth : Method} {c : Code} {D : va_G} {cI cZ cJ : ClassId} {ad : Nat → Nat} {rest w0 : va_W} (C : XC p rm_X4_learn s m args meth c cX4_learn 3 none RX4 wsX4_learn D (t3 cI cZ cJ)) {S : St} {x2 : Int32} {r : St} (h : X4_learn_L32 S x2 = some r) : XW p l e rm_X4_learn s m args below meth c D w0 3 (MQ below (QV D (t3 cI cZ cJ) w0 (wE cI cZ ad r rest) s.heap.size) args s 0 0 (va_A w0 s.heap.size)) (wE cI cZ ad S rest) 0 0 32 [(0, .ref (ad 0)), (2, .int x2)] [] :=
  wloop_met (P := (fun a' : (St × Int32) => XW p l e rm_X4_learn s m args below meth c D w0 3 (MQ below (QV D (t3 cI cZ cJ) w0 (wE cI cZ ad r rest) s.heap.size) args s 0 0 (va_A w0 s.heap.size)) (wE cI cZ ad a'.1 rest) 0 0 32 [(0, .ref (ad 0)), (2, .int a'.2)] [])) (fun _ _ hz hk hr => X_X4_learn_H32 C hz hk hr) 1000 (S, x2) h
def X4_learn_b30 (S : St) : Option (St) :=
  X4_learn_L32 S 0
set_option maxHeartbeats 4000000 in
set_option maxRecDepth 100000 in
theorem X_X4_learn_b30 {p : Program} {l : Launch} {e : Env} {s : State} {m : MethodId} {args : Array Value} {below : List Frame} {meth : Method} {c : Code} {D : va_G} {cI cZ cJ : ClassId} {ad : Nat → Nat} {rest w0 : va_W} (C : XC p rm_X4_learn s m args meth c cX4_learn 3 none RX4 wsX4_learn D (t3 cI cZ cJ)) {S : St} {r : St} (h : X4_learn_b30 S = some r) : XW p l e rm_X4_learn s m args below meth c D w0 3 (MQ below (QV D (t3 cI cZ cJ) w0 (wE cI cZ ad r rest) s.heap.size) args s 0 0 (va_A w0 s.heap.size)) (wE cI cZ ad S rest) 0 0 30 [(0, .ref (ad 0))] [] := by
  unfold X4_learn_b30 at h
  refine x_iconst C (v := 0) dX4_learn_30 (by decide) ?_
  refine x_istore_n C (lv' := [(0, .ref (ad 0)), (2, .int 0)]) dX4_learn_31 (by decide) rfl ?_
  exact X_X4_learn_L32 C h
def X4_learn_b15 (S : St) (s0 : Int32) : Option (St) :=
  if ((S 0 4) - 1) ≤ s0 then (X4_learn_L32 S s0) else ((X4_clear S).bind fun S27 => X4_learn_b30 S27)
set_option maxHeartbeats 4000000 in
set_option maxRecDepth 100000 in
theorem X_X4_learn_b15 {p : Program} {l : Launch} {e : Env} {s : State} {m : MethodId} {args : Array Value} {below : List Frame} {meth : Method} {c : Code} {D : va_G} {cI cZ cJ : ClassId} {ad : Nat → Nat} {rest w0 : va_W} (C : XC p rm_X4_learn s m args meth c cX4_learn 3 none RX4 wsX4_learn D (t3 cI cZ cJ)) {S : St} {s0 : Int32} {r : St} (h : X4_learn_b15 S s0 = some r) : XW p l e rm_X4_learn s m args below meth c D w0 3 (MQ below (QV D (t3 cI cZ cJ) w0 (wE cI cZ ad r rest) s.heap.size) args s 0 0 (va_A w0 s.heap.size)) (wE cI cZ ad S rest) 0 0 15 [(0, .ref (ad 0))] [.int s0] := by
  unfold X4_learn_b15 at h
  refine x_istore_n C (lv' := [(0, .ref (ad 0)), (2, .int s0)]) dX4_learn_15 (by decide) rfl ?_
  refine x_iload_n C 1 dX4_learn_16 rfl ?_
  refine x_aload_n C 0 dX4_learn_17 rfl ?_
  refine x_get C (R' := RX4) (T := TX4) (N := 11) (ci := 4) 0 4 rfl rfl (by decide) rfl rfl hi_X4_learn_4 lk_X4_learn_55 dX4_learn_18 ?_
  refine x_iconst C (v := 1) dX4_learn_21 (by decide) ?_
  refine x_isub C dX4_learn_22 ?_
  refine x_icmp_ge C (t := 32) dX4_learn_23 (by decide) (fun c23 => ?_) (fun c23 => ?_)
  · replace h := (if_pos c23).symm.trans h
    exact X_X4_learn_L32 C h
  · replace h := (if_neg c23).symm.trans h
    refine x_aload_n C 0 dX4_learn_26 rfl ?_
    obtain ⟨S27, hg27, h⟩ := ob h
    refine x_cv0 (x_runV C (As := []) (rest := []) (c_X4_clear hg27) (cw_X4_learn_X4_clear_43 C) 0 rfl rfl rfl (Nat.le_of_ble_eq_true rfl) dX4_learn_27 ⟨Nat.zero_le _, Nat.zero_le _⟩) ?_
    refine x_locals (lv' := [(0, .ref (ad 0))]) [0] rfl ?_
    exact X_X4_learn_b30 C h
def X4_learn (S : St) (x1 : Int32) : Option (St) :=
  if (S 0 4) < 40 then ((X4_putInOrder S x1).bind fun q12 => X4_learn_b15 q12.2 q12.1) else (some S)
set_option maxHeartbeats 4000000 in
set_option maxRecDepth 100000 in
theorem X_X4_learn {p : Program} {l : Launch} {e : Env} {s : State} {m : MethodId} {args : Array Value} {below : List Frame} {meth : Method} {c : Code} {D : va_G} {cI cZ cJ : ClassId} {ad : Nat → Nat} {rest w0 : va_W} (C : XC p rm_X4_learn s m args meth c cX4_learn 3 none RX4 wsX4_learn D (t3 cI cZ cJ)) {S : St} {x1 : Int32} {r : St} (h : X4_learn S x1 = some r) : XW p l e rm_X4_learn s m args below meth c D w0 3 (MQ below (QV D (t3 cI cZ cJ) w0 (wE cI cZ ad r rest) s.heap.size) args s 0 0 (va_A w0 s.heap.size)) (wE cI cZ ad S rest) 0 0 0 [(0, .ref (ad 0)), (1, .int x1)] [] := by
  unfold X4_learn at h
  refine x_aload_n C 0 dX4_learn_0 rfl ?_
  refine x_get C (R' := RX4) (T := TX4) (N := 11) (ci := 4) 0 4 rfl rfl (by decide) rfl rfl hi_X4_learn_4 lk_X4_learn_55 dX4_learn_1 ?_
  refine x_bipush C (v := 40) dX4_learn_4 (by decide) ?_
  refine x_icmp_lt C (t := 10) dX4_learn_6 (by decide) (fun c6 => ?_) (fun c6 => ?_)
  · replace h := (if_pos c6).symm.trans h
    refine x_aload_n C 0 dX4_learn_10 rfl ?_
    refine x_iload_n C 1 dX4_learn_11 rfl ?_
    obtain ⟨⟨v12, S12⟩, hg12, h⟩ := ob h
    refine x_ci0 (x_runV C (As := [.int x1]) (rest := []) (c_X4_putInOrder hg12) (cw_X4_learn_X4_putInOrder_72 C) 0 rfl rfl rfl (Nat.le_of_ble_eq_true rfl) dX4_learn_12 ⟨Nat.zero_le _, Nat.zero_le _⟩) ?_
    refine x_locals (lv' := [(0, .ref (ad 0))]) [0] rfl ?_
    exact X_X4_learn_b15 C h
  · replace h := (if_neg c6).symm.trans h
    obtain rfl := Option.some.inj h
    exact x_vret C dX4_learn_9
set_option maxRecDepth 100000 in
theorem c_X4_learn {l : Launch} {D : va_G} {cI cZ cJ : ClassId} {ad : Nat → Nat} {S : St} {rest : va_W} {x1 : Int32} {r : St} (h : X4_learn S x1 = some r) : ∀ sz, Met l yX4_learn wsX4_learn rm_X4_learn (PC D (t3 cI cZ cJ) [.ref (ad 0), .int x1] (wE cI cZ ad S rest) sz) (QV D (t3 cI cZ cJ) (wE cI cZ ad S rest) (wE cI cZ ad r rest) sz) 0 0 (va_A (wE cI cZ ad S rest) sz) := by
  refine x_met (Qc := fun sz => QV D (t3 cI cZ cJ) (wE cI cZ ad S rest) (wE cI cZ ad r rest) sz) RX4 rfl (by decide) rfl (Nat.le_of_ble_eq_true rfl) (fun p e s m args below meth c C => ?_)
  exact X_X4_learn C h
/-! EntryMasters$Tree.labelAt(I)I -/
abbrev rm_X4_labelAt : Room := { frames := 1, cells := 0, slots := 0, locals := 21 }
theorem hi_X4_labelAt_4 : ∀ z ∈ u_ws RX4 TX4 11, z ∈ wsX4_labelAt := by decide +kernel
theorem lk_X4_labelAt_22 : Cond.fieldLink RX4 22 RX4 "labels" "[I" ∈ wsX4_labelAt := by decide +kernel
theorem cw_X4_labelAt_X5_at_58 {p : Program} {s : State} {m : MethodId} {args : Array Value} {meth : Method} {c : Code} {D : va_G} {tys : List (ClassId × FieldType)} {R : Room} (C : XC p R s m args meth c cX4_labelAt 2 (some .int) RX4 wsX4_labelAt D tys) : va_CN rm_X4_labelAt s args RX4 58 yX5_at RX5 cX5_at 2 (some .int) wsX5_at rm_X5_at 0 0 2 ∧ (Cond.static yX5_at).before args s = true ∧ True := ⟨va_cnB 2 C.2.2.2.2.1 gX4_labelAt_X5_at_n58 rfl rfl rfl (C.2.2.2.2.2.2.1.1 _ (nm_mem 9 rfl)) (C.2.2.2.2.1 (.initialized RX5) (by decide +kernel)) (by decide +kernel) ⟨Nat.le_of_ble_eq_true rfl, Nat.le_of_ble_eq_true rfl⟩, C.2.2.2.2.1 (.static yX5_at) (by decide +kernel), trivial⟩
def X4_labelAt (S : St) (x1 : Int32) : Option (Int32) :=
  (X5_at 42 (S 4) x1).bind fun v5 => some v5
set_option maxHeartbeats 4000000 in
set_option maxRecDepth 100000 in
theorem X_X4_labelAt {p : Program} {l : Launch} {e : Env} {s : State} {m : MethodId} {args : Array Value} {below : List Frame} {meth : Method} {c : Code} {D : va_G} {cI cZ cJ : ClassId} {ad : Nat → Nat} {rest w0 : va_W} (C : XC p rm_X4_labelAt s m args meth c cX4_labelAt 2 (some .int) RX4 wsX4_labelAt D (t3 cI cZ cJ)) {S : St} {x1 : Int32} {r : Int32} (h : X4_labelAt S x1 = some r) : XW p l e rm_X4_labelAt s m args below meth c D w0 2 (MQ below (QI D (t3 cI cZ cJ) w0 (wE cI cZ ad S rest) s.heap.size r) args s 0 0 (va_A w0 s.heap.size)) (wE cI cZ ad S rest) 0 0 0 [(0, .ref (ad 0)), (1, .int x1)] [] := by
  unfold X4_labelAt at h
  refine x_aload_n C 0 dX4_labelAt_0 rfl ?_
  refine x_get C (R' := RX4) (T := TX4) (N := 11) (ci := 4) 0 7 rfl rfl (by decide) rfl rfl hi_X4_labelAt_4 lk_X4_labelAt_22 dX4_labelAt_1 ?_
  refine x_iload_n C 1 dX4_labelAt_4 rfl ?_
  obtain ⟨v5, hg5, h⟩ := ob h
  refine x_ci0 (x_runSN C (As := [.ref (ad 4), .int x1]) (rest := []) (c_X5_at 4 rfl hg5) (cw_X4_labelAt_X5_at_58 C) rfl (Nat.le_of_ble_eq_true rfl) dX4_labelAt_5 ⟨Nat.zero_le _, Nat.zero_le _⟩) ?_
  obtain rfl := Option.some.inj h
  exact x_iret C dX4_labelAt_8
set_option maxRecDepth 100000 in
theorem c_X4_labelAt {l : Launch} {D : va_G} {cI cZ cJ : ClassId} {ad : Nat → Nat} {S : St} {rest : va_W} {x1 : Int32} {r : Int32} (h : X4_labelAt S x1 = some r) : ∀ sz, Met l yX4_labelAt wsX4_labelAt rm_X4_labelAt (PC D (t3 cI cZ cJ) [.ref (ad 0), .int x1] (wE cI cZ ad S rest) sz) (QI D (t3 cI cZ cJ) (wE cI cZ ad S rest) (wE cI cZ ad S rest) sz r) 0 0 (va_A (wE cI cZ ad S rest) sz) := by
  refine x_met (Qc := fun sz => QI D (t3 cI cZ cJ) (wE cI cZ ad S rest) (wE cI cZ ad S rest) sz r) RX4 rfl (by decide) rfl (Nat.le_of_ble_eq_true rfl) (fun p e s m args below meth c C => ?_)
  exact X_X4_labelAt C h
/-! EntryMasters$Tree.hasAllNeeded(I)Z -/
abbrev rm_X4_hasAllNeeded : Room := { frames := 2, cells := 0, slots := 0, locals := 43 }
theorem hi_X4_hasAllNeeded_4 : ∀ z ∈ u_ws RX4 TX4 11, z ∈ wsX4_hasAllNeeded := by decide +kernel
theorem lk_X4_hasAllNeeded_25 : Cond.fieldLink RX4 25 RX4 "classesOfEntries" "[I" ∈ wsX4_hasAllNeeded := by decide +kernel
theorem lk_X4_hasAllNeeded_39 : Cond.fieldLink RX4 39 RX4 "classes" "LEntryMasters$Classes;" ∈ wsX4_hasAllNeeded := by decide +kernel
theorem cw_X4_hasAllNeeded_X0_needs_139 {p : Program} {s : State} {m : MethodId} {args : Array Value} {meth : Method} {c : Code} {D : va_G} {tys : List (ClassId × FieldType)} {R : Room} (C : XC p R s m args meth c cX4_hasAllNeeded 4 (some .boolean) RX4 wsX4_hasAllNeeded D tys) : CallW rm_X4_hasAllNeeded s args RX4 RX0 139 yX0_needs cX0_needs 3 (some .boolean) wsX0_needs rm_X0_needs 0 0 2 := cwV 2 C.2.2.2.2.1 gX4_hasAllNeeded_X0_needs rfl rfl rfl (by decide +kernel) ⟨Nat.le_of_ble_eq_true rfl, Nat.le_of_ble_eq_true rfl⟩
theorem cw_X4_hasAllNeeded_X4_valueAt_142 {p : Program} {s : State} {m : MethodId} {args : Array Value} {meth : Method} {c : Code} {D : va_G} {tys : List (ClassId × FieldType)} {R : Room} (C : XC p R s m args meth c cX4_hasAllNeeded 4 (some .boolean) RX4 wsX4_hasAllNeeded D tys) : CallW rm_X4_hasAllNeeded s args RX4 RX4 142 yX4_valueAt cX4_valueAt 3 (some .int) wsX4_valueAt rm_X4_valueAt 0 0 2 := cwV 2 C.2.2.2.2.1 gX4_hasAllNeeded_X4_valueAt rfl rfl rfl (by decide +kernel) ⟨Nat.le_of_ble_eq_true rfl, Nat.le_of_ble_eq_true rfl⟩
theorem cw_X4_hasAllNeeded_X5_at_58 {p : Program} {s : State} {m : MethodId} {args : Array Value} {meth : Method} {c : Code} {D : va_G} {tys : List (ClassId × FieldType)} {R : Room} (C : XC p R s m args meth c cX4_hasAllNeeded 4 (some .boolean) RX4 wsX4_hasAllNeeded D tys) : va_CN rm_X4_hasAllNeeded s args RX4 58 yX5_at RX5 cX5_at 2 (some .int) wsX5_at rm_X5_at 0 0 2 ∧ (Cond.static yX5_at).before args s = true ∧ True := ⟨va_cnB 2 C.2.2.2.2.1 gX4_hasAllNeeded_X5_at_n58 rfl rfl rfl (C.2.2.2.2.2.2.1.1 _ (nm_mem 9 rfl)) (C.2.2.2.2.1 (.initialized RX5) (by decide +kernel)) (by decide +kernel) ⟨Nat.le_of_ble_eq_true rfl, Nat.le_of_ble_eq_true rfl⟩, C.2.2.2.2.1 (.static yX5_at) (by decide +kernel), trivial⟩
def X4_hasAllNeeded_b46 (S : St) : Option (Int32) :=
  some 1
set_option maxHeartbeats 4000000 in
set_option maxRecDepth 100000 in
theorem X_X4_hasAllNeeded_b46 {p : Program} {l : Launch} {e : Env} {s : State} {m : MethodId} {args : Array Value} {below : List Frame} {meth : Method} {c : Code} {D : va_G} {cI cZ cJ : ClassId} {ad : Nat → Nat} {rest w0 : va_W} (C : XC p rm_X4_hasAllNeeded s m args meth c cX4_hasAllNeeded 4 (some .boolean) RX4 wsX4_hasAllNeeded D (t3 cI cZ cJ)) {S : St} {r : Int32} (h : X4_hasAllNeeded_b46 S = some r) : XW p l e rm_X4_hasAllNeeded s m args below meth c D w0 4 (MQ below (QI D (t3 cI cZ cJ) w0 (wE cI cZ ad S rest) s.heap.size r) args s 0 0 (va_A w0 s.heap.size)) (wE cI cZ ad S rest) 0 0 46 [] [] := by
  unfold X4_hasAllNeeded_b46 at h
  refine x_iconst C (v := 1) dX4_hasAllNeeded_46 (by decide) ?_
  obtain rfl := Option.some.inj h
  exact x_zret C rfl dX4_hasAllNeeded_47
def X4_hasAllNeeded_b40 (S : St) (x1 x2 x3 : Int32) : Option ((Int32 × Int32 × Int32) ⊕ (Int32)) :=
  some (.inl (x1, x2, x3 + 1))
set_option maxHeartbeats 4000000 in
set_option maxRecDepth 100000 in
theorem X_X4_hasAllNeeded_b40 {p : Program} {l : Launch} {e : Env} {s : State} {m : MethodId} {args : Array Value} {below : List Frame} {meth : Method} {c : Code} {D : va_G} {cI cZ cJ : ClassId} {ad : Nat → Nat} {rest w0 : va_W} (C : XC p rm_X4_hasAllNeeded s m args meth c cX4_hasAllNeeded 4 (some .boolean) RX4 wsX4_hasAllNeeded D (t3 cI cZ cJ)) {S : St} {x1 x2 x3 : Int32} {z : (Int32 × Int32 × Int32) ⊕ (Int32)} {r : Int32} (h : X4_hasAllNeeded_b40 S x1 x2 x3 = some z) (hk : ∀ a' : (Int32 × Int32 × Int32), z = .inl a' → XW p l e rm_X4_hasAllNeeded s m args below meth c D w0 4 (MQ below (QI D (t3 cI cZ cJ) w0 (wE cI cZ ad S rest) s.heap.size r) args s 0 0 (va_A w0 s.heap.size)) (wE cI cZ ad S rest) 0 0 11 [(0, .ref (ad 0)), (1, .int a'.1), (2, .int a'.2.1), (3, .int a'.2.2)] []) (hr : ∀ r', z = .inr r' → r' = r) : XW p l e rm_X4_hasAllNeeded s m args below meth c D w0 4 (MQ below (QI D (t3 cI cZ cJ) w0 (wE cI cZ ad S rest) s.heap.size r) args s 0 0 (va_A w0 s.heap.size)) (wE cI cZ ad S rest) 0 0 40 [(0, .ref (ad 0)), (1, .int x1), (2, .int x2), (3, .int x3)] [] := by
  unfold X4_hasAllNeeded_b40 at h
  refine x_iinc C (v := x3 + 1) (lv' := [(0, .ref (ad 0)), (1, .int x1), (2, .int x2), (3, .int (x3 + 1))]) 3 dX4_hasAllNeeded_40 rfl rfl (by decide) rfl ?_
  refine x_goto C (t := 11) dX4_hasAllNeeded_43 (by decide) ?_
  exact hk _ (Option.some.inj h).symm
def X4_hasAllNeeded_b38 (S : St) : Option (Int32) :=
  some 0
set_option maxHeartbeats 4000000 in
set_option maxRecDepth 100000 in
theorem X_X4_hasAllNeeded_b38 {p : Program} {l : Launch} {e : Env} {s : State} {m : MethodId} {args : Array Value} {below : List Frame} {meth : Method} {c : Code} {D : va_G} {cI cZ cJ : ClassId} {ad : Nat → Nat} {rest w0 : va_W} (C : XC p rm_X4_hasAllNeeded s m args meth c cX4_hasAllNeeded 4 (some .boolean) RX4 wsX4_hasAllNeeded D (t3 cI cZ cJ)) {S : St} {r : Int32} (h : X4_hasAllNeeded_b38 S = some r) : XW p l e rm_X4_hasAllNeeded s m args below meth c D w0 4 (MQ below (QI D (t3 cI cZ cJ) w0 (wE cI cZ ad S rest) s.heap.size r) args s 0 0 (va_A w0 s.heap.size)) (wE cI cZ ad S rest) 0 0 38 [] [] := by
  unfold X4_hasAllNeeded_b38 at h
  refine x_iconst C (v := 0) dX4_hasAllNeeded_38 (by decide) ?_
  obtain rfl := Option.some.inj h
  exact x_zret C rfl dX4_hasAllNeeded_39
def X4_hasAllNeeded_H11 (S : St) (x1 x2 x3 : Int32) : Option ((Int32 × Int32 × Int32) ⊕ (Int32)) :=
  if 4 ≤ x3 then (exI (X4_hasAllNeeded_b46 S)) else ((X0_needs S x2 x3).bind fun v22 => if v22 = 0 then (X4_hasAllNeeded_b40 S x1 x2 x3) else ((X4_valueAt S x1 x3).bind fun v31 => if v31 = (-1) then (exI (X4_hasAllNeeded_b38 S)) else (X4_hasAllNeeded_b40 S x1 x2 x3)))
set_option maxHeartbeats 4000000 in
set_option maxRecDepth 100000 in
theorem X_X4_hasAllNeeded_H11 {p : Program} {l : Launch} {e : Env} {s : State} {m : MethodId} {args : Array Value} {below : List Frame} {meth : Method} {c : Code} {D : va_G} {cI cZ cJ : ClassId} {ad : Nat → Nat} {rest w0 : va_W} (C : XC p rm_X4_hasAllNeeded s m args meth c cX4_hasAllNeeded 4 (some .boolean) RX4 wsX4_hasAllNeeded D (t3 cI cZ cJ)) {S : St} {x1 x2 x3 : Int32} {z : (Int32 × Int32 × Int32) ⊕ (Int32)} {r : Int32} (h : X4_hasAllNeeded_H11 S x1 x2 x3 = some z) (hk : ∀ a' : (Int32 × Int32 × Int32), z = .inl a' → XW p l e rm_X4_hasAllNeeded s m args below meth c D w0 4 (MQ below (QI D (t3 cI cZ cJ) w0 (wE cI cZ ad S rest) s.heap.size r) args s 0 0 (va_A w0 s.heap.size)) (wE cI cZ ad S rest) 0 0 11 [(0, .ref (ad 0)), (1, .int a'.1), (2, .int a'.2.1), (3, .int a'.2.2)] []) (hr : ∀ r', z = .inr r' → r' = r) : XW p l e rm_X4_hasAllNeeded s m args below meth c D w0 4 (MQ below (QI D (t3 cI cZ cJ) w0 (wE cI cZ ad S rest) s.heap.size r) args s 0 0 (va_A w0 s.heap.size)) (wE cI cZ ad S rest) 0 0 11 [(0, .ref (ad 0)), (1, .int x1), (2, .int x2), (3, .int x3)] [] := by
  unfold X4_hasAllNeeded_H11 at h
  refine x_iload_n C 3 dX4_hasAllNeeded_11 rfl ?_
  refine x_iconst C (v := 4) dX4_hasAllNeeded_12 (by decide) ?_
  refine x_icmp_ge C (t := 46) dX4_hasAllNeeded_13 (by decide) (fun c13 => ?_) (fun c13 => ?_)
  · replace h := (if_pos c13).symm.trans h
    refine x_locals (lv' := []) [] rfl ?_
    obtain ⟨r1, h1, h2⟩ := exI_some h
    obtain rfl := hr r1 h2
    exact X_X4_hasAllNeeded_b46 C h1
  · replace h := (if_neg c13).symm.trans h
    refine x_aload_n C 0 dX4_hasAllNeeded_16 rfl ?_
    refine x_get C (R' := RX4) (T := TX4) (N := 11) (ci := 4) 0 2 rfl rfl (by decide) rfl rfl hi_X4_hasAllNeeded_4 lk_X4_hasAllNeeded_39 dX4_hasAllNeeded_17 ?_
    refine x_iload_n C 2 dX4_hasAllNeeded_20 rfl ?_
    refine x_iload_n C 3 dX4_hasAllNeeded_21 rfl ?_
    obtain ⟨v22, hg22, h⟩ := ob h
    refine x_ci0 (x_runV C (As := [.int x2, .int x3]) (rest := []) (c_X0_needs hg22) (cw_X4_hasAllNeeded_X0_needs_139 C) 21 rfl rfl rfl (Nat.le_of_ble_eq_true rfl) dX4_hasAllNeeded_22 ⟨Nat.zero_le _, Nat.zero_le _⟩) ?_
    refine x_if_eq C (t := 40) dX4_hasAllNeeded_25 (by decide) (fun c25 => ?_) (fun c25 => ?_)
    · replace h := (if_pos c25).symm.trans h
      exact X_X4_hasAllNeeded_b40 C h hk hr
    · replace h := (if_neg c25).symm.trans h
      refine x_aload_n C 0 dX4_hasAllNeeded_28 rfl ?_
      refine x_iload_n C 1 dX4_hasAllNeeded_29 rfl ?_
      refine x_iload_n C 3 dX4_hasAllNeeded_30 rfl ?_
      obtain ⟨v31, hg31, h⟩ := ob h
      refine x_ci0 (x_runV C (As := [.int x1, .int x3]) (rest := []) (c_X4_valueAt hg31) (cw_X4_hasAllNeeded_X4_valueAt_142 C) 0 rfl rfl rfl (Nat.le_of_ble_eq_true rfl) dX4_hasAllNeeded_31 ⟨Nat.zero_le _, Nat.zero_le _⟩) ?_
      refine x_iconst C (v := (-1)) dX4_hasAllNeeded_34 (by decide) ?_
      refine x_icmp_ne C (t := 40) dX4_hasAllNeeded_35 (by decide) (fun c35 => ?_) (fun c35 => ?_)
      · replace h := (if_neg c35).symm.trans h
        exact X_X4_hasAllNeeded_b40 C h hk hr
      · replace h := (if_pos c35).symm.trans h
        refine x_locals (lv' := []) [] rfl ?_
        obtain ⟨r1, h1, h2⟩ := exI_some h
        obtain rfl := hr r1 h2
        exact X_X4_hasAllNeeded_b38 C h1
def X4_hasAllNeeded_L11 (S : St) (x1 x2 x3 : Int32) : Option (Int32) := wloop (fun a' : (Int32 × Int32 × Int32) => X4_hasAllNeeded_H11 S a'.1 a'.2.1 a'.2.2) 1000 (x1, x2, x3)
set_option maxHeartbeats 4000000 in
set_option maxRecDepth 100000 in
theorem X_X4_hasAllNeeded_L11 {p : Program} {l : Launch} {e : Env} {s : State} {m : MethodId} {args : Array Value} {below : List Frame} {meth : Method} {c : Code} {D : va_G} {cI cZ cJ : ClassId} {ad : Nat → Nat} {rest w0 : va_W} (C : XC p rm_X4_hasAllNeeded s m args meth c cX4_hasAllNeeded 4 (some .boolean) RX4 wsX4_hasAllNeeded D (t3 cI cZ cJ)) {S : St} {x1 x2 x3 : Int32} {r : Int32} (h : X4_hasAllNeeded_L11 S x1 x2 x3 = some r) : XW p l e rm_X4_hasAllNeeded s m args below meth c D w0 4 (MQ below (QI D (t3 cI cZ cJ) w0 (wE cI cZ ad S rest) s.heap.size r) args s 0 0 (va_A w0 s.heap.size)) (wE cI cZ ad S rest) 0 0 11 [(0, .ref (ad 0)), (1, .int x1), (2, .int x2), (3, .int x3)] [] :=
  wloop_met (P := (fun a' : (Int32 × Int32 × Int32) => XW p l e rm_X4_hasAllNeeded s m args below meth c D w0 4 (MQ below (QI D (t3 cI cZ cJ) w0 (wE cI cZ ad S rest) s.heap.size r) args s 0 0 (va_A w0 s.heap.size)) (wE cI cZ ad S rest) 0 0 11 [(0, .ref (ad 0)), (1, .int a'.1), (2, .int a'.2.1), (3, .int a'.2.2)] [])) (fun _ _ hz hk hr => X_X4_hasAllNeeded_H11 C hz hk hr) 1000 (x1, x2, x3) h
def X4_hasAllNeeded (S : St) (x1 : Int32) : Option (Int32) :=
  (X5_at 42 (S 5) x1).bind fun v5 => X4_hasAllNeeded_L11 S x1 v5 0
set_option maxHeartbeats 4000000 in
set_option maxRecDepth 100000 in
theorem X_X4_hasAllNeeded {p : Program} {l : Launch} {e : Env} {s : State} {m : MethodId} {args : Array Value} {below : List Frame} {meth : Method} {c : Code} {D : va_G} {cI cZ cJ : ClassId} {ad : Nat → Nat} {rest w0 : va_W} (C : XC p rm_X4_hasAllNeeded s m args meth c cX4_hasAllNeeded 4 (some .boolean) RX4 wsX4_hasAllNeeded D (t3 cI cZ cJ)) {S : St} {x1 : Int32} {r : Int32} (h : X4_hasAllNeeded S x1 = some r) : XW p l e rm_X4_hasAllNeeded s m args below meth c D w0 4 (MQ below (QI D (t3 cI cZ cJ) w0 (wE cI cZ ad S rest) s.heap.size r) args s 0 0 (va_A w0 s.heap.size)) (wE cI cZ ad S rest) 0 0 0 [(0, .ref (ad 0)), (1, .int x1)] [] := by
  unfold X4_hasAllNeeded at h
  refine x_aload_n C 0 dX4_hasAllNeeded_0 rfl ?_
  refine x_get C (R' := RX4) (T := TX4) (N := 11) (ci := 4) 0 8 rfl rfl (by decide) rfl rfl hi_X4_hasAllNeeded_4 lk_X4_hasAllNeeded_25 dX4_hasAllNeeded_1 ?_
  refine x_iload_n C 1 dX4_hasAllNeeded_4 rfl ?_
  obtain ⟨v5, hg5, h⟩ := ob h
  refine x_ci0 (x_runSN C (As := [.ref (ad 5), .int x1]) (rest := []) (c_X5_at 5 rfl hg5) (cw_X4_hasAllNeeded_X5_at_58 C) rfl (Nat.le_of_ble_eq_true rfl) dX4_hasAllNeeded_5 ⟨Nat.zero_le _, Nat.zero_le _⟩) ?_
  refine x_istore_n C (lv' := [(0, .ref (ad 0)), (1, .int x1), (2, .int v5)]) dX4_hasAllNeeded_8 (by decide) rfl ?_
  refine x_iconst C (v := 0) dX4_hasAllNeeded_9 (by decide) ?_
  refine x_istore_n C (lv' := [(0, .ref (ad 0)), (1, .int x1), (2, .int v5), (3, .int 0)]) dX4_hasAllNeeded_10 (by decide) rfl ?_
  exact X_X4_hasAllNeeded_L11 C h
set_option maxRecDepth 100000 in
theorem c_X4_hasAllNeeded {l : Launch} {D : va_G} {cI cZ cJ : ClassId} {ad : Nat → Nat} {S : St} {rest : va_W} {x1 : Int32} {r : Int32} (h : X4_hasAllNeeded S x1 = some r) : ∀ sz, Met l yX4_hasAllNeeded wsX4_hasAllNeeded rm_X4_hasAllNeeded (PC D (t3 cI cZ cJ) [.ref (ad 0), .int x1] (wE cI cZ ad S rest) sz) (QI D (t3 cI cZ cJ) (wE cI cZ ad S rest) (wE cI cZ ad S rest) sz r) 0 0 (va_A (wE cI cZ ad S rest) sz) := by
  refine x_met (Qc := fun sz => QI D (t3 cI cZ cJ) (wE cI cZ ad S rest) (wE cI cZ ad S rest) sz r) RX4 rfl (by decide) rfl (Nat.le_of_ble_eq_true rfl) (fun p e s m args below meth c C => ?_)
  exact X_X4_hasAllNeeded C h
/-! EntryMasters$Tree.hasChild(I)Z -/
abbrev rm_X4_hasChild : Room := { frames := 0, cells := 0, slots := 0, locals := 0 }
theorem hi_X4_hasChild_4 : ∀ z ∈ u_ws RX4 TX4 11, z ∈ wsX4_hasChild := by decide +kernel
theorem lk_X4_hasChild_19 : Cond.fieldLink RX4 19 RX4 "parents" "[I" ∈ wsX4_hasChild := by decide +kernel
def X4_hasChild_b26 (S : St) : Option (Int32) :=
  some 0
set_option maxHeartbeats 4000000 in
set_option maxRecDepth 100000 in
theorem X_X4_hasChild_b26 {p : Program} {l : Launch} {e : Env} {s : State} {m : MethodId} {args : Array Value} {below : List Frame} {meth : Method} {c : Code} {D : va_G} {cI cZ cJ : ClassId} {ad : Nat → Nat} {rest w0 : va_W} (C : XC p rm_X4_hasChild s m args meth c cX4_hasChild 3 (some .boolean) RX4 wsX4_hasChild D (t3 cI cZ cJ)) {S : St} {r : Int32} (h : X4_hasChild_b26 S = some r) : XW p l e rm_X4_hasChild s m args below meth c D w0 3 (MQ below (QI D (t3 cI cZ cJ) w0 (wE cI cZ ad S rest) s.heap.size r) args s 0 0 (va_A w0 s.heap.size)) (wE cI cZ ad S rest) 0 0 26 [] [] := by
  unfold X4_hasChild_b26 at h
  refine x_iconst C (v := 0) dX4_hasChild_26 (by decide) ?_
  obtain rfl := Option.some.inj h
  exact x_zret C rfl dX4_hasChild_27
def X4_hasChild_b18 (S : St) : Option (Int32) :=
  some 1
set_option maxHeartbeats 4000000 in
set_option maxRecDepth 100000 in
theorem X_X4_hasChild_b18 {p : Program} {l : Launch} {e : Env} {s : State} {m : MethodId} {args : Array Value} {below : List Frame} {meth : Method} {c : Code} {D : va_G} {cI cZ cJ : ClassId} {ad : Nat → Nat} {rest w0 : va_W} (C : XC p rm_X4_hasChild s m args meth c cX4_hasChild 3 (some .boolean) RX4 wsX4_hasChild D (t3 cI cZ cJ)) {S : St} {r : Int32} (h : X4_hasChild_b18 S = some r) : XW p l e rm_X4_hasChild s m args below meth c D w0 3 (MQ below (QI D (t3 cI cZ cJ) w0 (wE cI cZ ad S rest) s.heap.size r) args s 0 0 (va_A w0 s.heap.size)) (wE cI cZ ad S rest) 0 0 18 [] [] := by
  unfold X4_hasChild_b18 at h
  refine x_iconst C (v := 1) dX4_hasChild_18 (by decide) ?_
  obtain rfl := Option.some.inj h
  exact x_zret C rfl dX4_hasChild_19
def X4_hasChild_H2 (S : St) (x1 x2 : Int32) : Option ((Int32 × Int32) ⊕ (Int32)) :=
  if 42 ≤ x2 then (exI (X4_hasChild_b26 S)) else (if inB x2 42 then (if (S 3 x2.toNatClampNeg) = x1 then (exI (X4_hasChild_b18 S)) else (some (.inl (x1, x2 + 1)))) else none)
set_option maxHeartbeats 4000000 in
set_option maxRecDepth 100000 in
theorem X_X4_hasChild_H2 {p : Program} {l : Launch} {e : Env} {s : State} {m : MethodId} {args : Array Value} {below : List Frame} {meth : Method} {c : Code} {D : va_G} {cI cZ cJ : ClassId} {ad : Nat → Nat} {rest w0 : va_W} (C : XC p rm_X4_hasChild s m args meth c cX4_hasChild 3 (some .boolean) RX4 wsX4_hasChild D (t3 cI cZ cJ)) {S : St} {x1 x2 : Int32} {z : (Int32 × Int32) ⊕ (Int32)} {r : Int32} (h : X4_hasChild_H2 S x1 x2 = some z) (hk : ∀ a' : (Int32 × Int32), z = .inl a' → XW p l e rm_X4_hasChild s m args below meth c D w0 3 (MQ below (QI D (t3 cI cZ cJ) w0 (wE cI cZ ad S rest) s.heap.size r) args s 0 0 (va_A w0 s.heap.size)) (wE cI cZ ad S rest) 0 0 2 [(0, .ref (ad 0)), (1, .int a'.1), (2, .int a'.2)] []) (hr : ∀ r', z = .inr r' → r' = r) : XW p l e rm_X4_hasChild s m args below meth c D w0 3 (MQ below (QI D (t3 cI cZ cJ) w0 (wE cI cZ ad S rest) s.heap.size r) args s 0 0 (va_A w0 s.heap.size)) (wE cI cZ ad S rest) 0 0 2 [(0, .ref (ad 0)), (1, .int x1), (2, .int x2)] [] := by
  unfold X4_hasChild_H2 at h
  refine x_iload_n C 2 dX4_hasChild_2 rfl ?_
  refine x_bipush C (v := 42) dX4_hasChild_3 (by decide) ?_
  refine x_icmp_ge C (t := 26) dX4_hasChild_5 (by decide) (fun c5 => ?_) (fun c5 => ?_)
  · replace h := (if_pos c5).symm.trans h
    refine x_locals (lv' := []) [] rfl ?_
    obtain ⟨r1, h1, h2⟩ := exI_some h
    obtain rfl := hr r1 h2
    exact X_X4_hasChild_b26 C h1
  · replace h := (if_neg c5).symm.trans h
    refine x_aload_n C 0 dX4_hasChild_8 rfl ?_
    refine x_get C (R' := RX4) (T := TX4) (N := 11) (ci := 4) 0 6 rfl rfl (by decide) rfl rfl hi_X4_hasChild_4 lk_X4_hasChild_19 dX4_hasChild_9 ?_
    refine x_iload_n C 2 dX4_hasChild_12 rfl ?_
    obtain ⟨g13, h⟩ := gdB h
    refine x_iald C 3 rfl g13 dX4_hasChild_13 ?_
    refine x_iload_n C 1 dX4_hasChild_14 rfl ?_
    refine x_icmp_ne C (t := 20) dX4_hasChild_15 (by decide) (fun c15 => ?_) (fun c15 => ?_)
    · replace h := (if_neg c15).symm.trans h
      refine x_iinc C (v := x2 + 1) (lv' := [(0, .ref (ad 0)), (1, .int x1), (2, .int (x2 + 1))]) 2 dX4_hasChild_20 rfl rfl (by decide) rfl ?_
      refine x_goto C (t := 2) dX4_hasChild_23 (by decide) ?_
      exact hk _ (Option.some.inj h).symm
    · replace h := (if_pos c15).symm.trans h
      refine x_locals (lv' := []) [] rfl ?_
      obtain ⟨r1, h1, h2⟩ := exI_some h
      obtain rfl := hr r1 h2
      exact X_X4_hasChild_b18 C h1
def X4_hasChild_L2 (S : St) (x1 x2 : Int32) : Option (Int32) := wloop (fun a' : (Int32 × Int32) => X4_hasChild_H2 S a'.1 a'.2) 1000 (x1, x2)
set_option maxHeartbeats 4000000 in
set_option maxRecDepth 100000 in
theorem X_X4_hasChild_L2 {p : Program} {l : Launch} {e : Env} {s : State} {m : MethodId} {args : Array Value} {below : List Frame} {meth : Method} {c : Code} {D : va_G} {cI cZ cJ : ClassId} {ad : Nat → Nat} {rest w0 : va_W} (C : XC p rm_X4_hasChild s m args meth c cX4_hasChild 3 (some .boolean) RX4 wsX4_hasChild D (t3 cI cZ cJ)) {S : St} {x1 x2 : Int32} {r : Int32} (h : X4_hasChild_L2 S x1 x2 = some r) : XW p l e rm_X4_hasChild s m args below meth c D w0 3 (MQ below (QI D (t3 cI cZ cJ) w0 (wE cI cZ ad S rest) s.heap.size r) args s 0 0 (va_A w0 s.heap.size)) (wE cI cZ ad S rest) 0 0 2 [(0, .ref (ad 0)), (1, .int x1), (2, .int x2)] [] :=
  wloop_met (P := (fun a' : (Int32 × Int32) => XW p l e rm_X4_hasChild s m args below meth c D w0 3 (MQ below (QI D (t3 cI cZ cJ) w0 (wE cI cZ ad S rest) s.heap.size r) args s 0 0 (va_A w0 s.heap.size)) (wE cI cZ ad S rest) 0 0 2 [(0, .ref (ad 0)), (1, .int a'.1), (2, .int a'.2)] [])) (fun _ _ hz hk hr => X_X4_hasChild_H2 C hz hk hr) 1000 (x1, x2) h
def X4_hasChild (S : St) (x1 : Int32) : Option (Int32) :=
  X4_hasChild_L2 S x1 0
set_option maxHeartbeats 4000000 in
set_option maxRecDepth 100000 in
theorem X_X4_hasChild {p : Program} {l : Launch} {e : Env} {s : State} {m : MethodId} {args : Array Value} {below : List Frame} {meth : Method} {c : Code} {D : va_G} {cI cZ cJ : ClassId} {ad : Nat → Nat} {rest w0 : va_W} (C : XC p rm_X4_hasChild s m args meth c cX4_hasChild 3 (some .boolean) RX4 wsX4_hasChild D (t3 cI cZ cJ)) {S : St} {x1 : Int32} {r : Int32} (h : X4_hasChild S x1 = some r) : XW p l e rm_X4_hasChild s m args below meth c D w0 3 (MQ below (QI D (t3 cI cZ cJ) w0 (wE cI cZ ad S rest) s.heap.size r) args s 0 0 (va_A w0 s.heap.size)) (wE cI cZ ad S rest) 0 0 0 [(0, .ref (ad 0)), (1, .int x1)] [] := by
  unfold X4_hasChild at h
  refine x_iconst C (v := 0) dX4_hasChild_0 (by decide) ?_
  refine x_istore_n C (lv' := [(0, .ref (ad 0)), (1, .int x1), (2, .int 0)]) dX4_hasChild_1 (by decide) rfl ?_
  exact X_X4_hasChild_L2 C h
set_option maxRecDepth 100000 in
theorem c_X4_hasChild {l : Launch} {D : va_G} {cI cZ cJ : ClassId} {ad : Nat → Nat} {S : St} {rest : va_W} {x1 : Int32} {r : Int32} (h : X4_hasChild S x1 = some r) : ∀ sz, Met l yX4_hasChild wsX4_hasChild rm_X4_hasChild (PC D (t3 cI cZ cJ) [.ref (ad 0), .int x1] (wE cI cZ ad S rest) sz) (QI D (t3 cI cZ cJ) (wE cI cZ ad S rest) (wE cI cZ ad S rest) sz r) 0 0 (va_A (wE cI cZ ad S rest) sz) := by
  refine x_met (Qc := fun sz => QI D (t3 cI cZ cJ) (wE cI cZ ad S rest) (wE cI cZ ad S rest) sz r) RX4 rfl (by decide) rfl (Nat.le_of_ble_eq_true rfl) (fun p e s m args below meth c C => ?_)
  exact X_X4_hasChild C h
/-! EntryMasters$Tree.hasSameEntry(LEntryMasters$Tree;I)Z -/
abbrev rm_X4_hasSameEntry : Room := { frames := 2, cells := 0, slots := 0, locals := 43 }
theorem hi_X4_hasSameEntry_4 : ∀ z ∈ u_ws RX4 TX4 11, z ∈ wsX4_hasSameEntry := by decide +kernel
theorem lk_X4_hasSameEntry_25 : Cond.fieldLink RX4 25 RX4 "classesOfEntries" "[I" ∈ wsX4_hasSameEntry := by decide +kernel
theorem cw_X4_hasSameEntry_X4_labelAt_155 {p : Program} {s : State} {m : MethodId} {args : Array Value} {meth : Method} {c : Code} {D : va_G} {tys : List (ClassId × FieldType)} {R : Room} (C : XC p R s m args meth c cX4_hasSameEntry 4 (some .boolean) RX4 wsX4_hasSameEntry D tys) : CallW rm_X4_hasSameEntry s args RX4 RX4 155 yX4_labelAt cX4_labelAt 2 (some .int) wsX4_labelAt rm_X4_labelAt 0 0 1 := cwV 1 C.2.2.2.2.1 gX4_hasSameEntry_X4_labelAt rfl rfl rfl (by decide +kernel) ⟨Nat.le_of_ble_eq_true rfl, Nat.le_of_ble_eq_true rfl⟩
theorem cw_X4_hasSameEntry_X4_parentAt_145 {p : Program} {s : State} {m : MethodId} {args : Array Value} {meth : Method} {c : Code} {D : va_G} {tys : List (ClassId × FieldType)} {R : Room} (C : XC p R s m args meth c cX4_hasSameEntry 4 (some .boolean) RX4 wsX4_hasSameEntry D tys) : CallW rm_X4_hasSameEntry s args RX4 RX4 145 yX4_parentAt cX4_parentAt 2 (some .int) wsX4_parentAt rm_X4_parentAt 0 0 1 := cwV 1 C.2.2.2.2.1 gX4_hasSameEntry_X4_parentAt rfl rfl rfl (by decide +kernel) ⟨Nat.le_of_ble_eq_true rfl, Nat.le_of_ble_eq_true rfl⟩
theorem cw_X4_hasSameEntry_X4_valueAt_142 {p : Program} {s : State} {m : MethodId} {args : Array Value} {meth : Method} {c : Code} {D : va_G} {tys : List (ClassId × FieldType)} {R : Room} (C : XC p R s m args meth c cX4_hasSameEntry 4 (some .boolean) RX4 wsX4_hasSameEntry D tys) : CallW rm_X4_hasSameEntry s args RX4 RX4 142 yX4_valueAt cX4_valueAt 3 (some .int) wsX4_valueAt rm_X4_valueAt 0 0 2 := cwV 2 C.2.2.2.2.1 gX4_hasSameEntry_X4_valueAt rfl rfl rfl (by decide +kernel) ⟨Nat.le_of_ble_eq_true rfl, Nat.le_of_ble_eq_true rfl⟩
theorem cw_X4_hasSameEntry_X5_at_58 {p : Program} {s : State} {m : MethodId} {args : Array Value} {meth : Method} {c : Code} {D : va_G} {tys : List (ClassId × FieldType)} {R : Room} (C : XC p R s m args meth c cX4_hasSameEntry 4 (some .boolean) RX4 wsX4_hasSameEntry D tys) : va_CN rm_X4_hasSameEntry s args RX4 58 yX5_at RX5 cX5_at 2 (some .int) wsX5_at rm_X5_at 0 0 2 ∧ (Cond.static yX5_at).before args s = true ∧ True := ⟨va_cnB 2 C.2.2.2.2.1 gX4_hasSameEntry_X5_at_n58 rfl rfl rfl (C.2.2.2.2.2.2.1.1 _ (nm_mem 9 rfl)) (C.2.2.2.2.1 (.initialized RX5) (by decide +kernel)) (by decide +kernel) ⟨Nat.le_of_ble_eq_true rfl, Nat.le_of_ble_eq_true rfl⟩, C.2.2.2.2.1 (.static yX5_at) (by decide +kernel), trivial⟩
def X4_hasSameEntry_b80 (S : St) (s0 : Int32) : Option (Int32) :=
  if s0 &&& 1 = s0 then (some s0) else none
set_option maxHeartbeats 4000000 in
set_option maxRecDepth 100000 in
theorem X_X4_hasSameEntry_b80 {p : Program} {l : Launch} {e : Env} {s : State} {m : MethodId} {args : Array Value} {below : List Frame} {meth : Method} {c : Code} {D : va_G} {cI cZ cJ : ClassId} {ad : Nat → Nat} {rest w0 : va_W} (C : XC p rm_X4_hasSameEntry s m args meth c cX4_hasSameEntry 4 (some .boolean) RX4 wsX4_hasSameEntry D (t3 cI cZ cJ)) {S : St} {s0 : Int32} {r : Int32} (h : X4_hasSameEntry_b80 S s0 = some r) : XW p l e rm_X4_hasSameEntry s m args below meth c D w0 4 (MQ below (QI D (t3 cI cZ cJ) w0 (wE cI cZ ad S rest) s.heap.size r) args s 0 0 (va_A w0 s.heap.size)) (wE cI cZ ad S rest) 0 0 80 [] [.int s0] := by
  unfold X4_hasSameEntry_b80 at h
  obtain ⟨g80, h⟩ := gd h
  obtain rfl := Option.some.inj h
  exact x_zret C g80 dX4_hasSameEntry_80
def X4_hasSameEntry_b79 (S : St) : Option (Int32) :=
  X4_hasSameEntry_b80 S 0
set_option maxHeartbeats 4000000 in
set_option maxRecDepth 100000 in
theorem X_X4_hasSameEntry_b79 {p : Program} {l : Launch} {e : Env} {s : State} {m : MethodId} {args : Array Value} {below : List Frame} {meth : Method} {c : Code} {D : va_G} {cI cZ cJ : ClassId} {ad : Nat → Nat} {rest w0 : va_W} (C : XC p rm_X4_hasSameEntry s m args meth c cX4_hasSameEntry 4 (some .boolean) RX4 wsX4_hasSameEntry D (t3 cI cZ cJ)) {S : St} {r : Int32} (h : X4_hasSameEntry_b79 S = some r) : XW p l e rm_X4_hasSameEntry s m args below meth c D w0 4 (MQ below (QI D (t3 cI cZ cJ) w0 (wE cI cZ ad S rest) s.heap.size r) args s 0 0 (va_A w0 s.heap.size)) (wE cI cZ ad S rest) 0 0 79 [] [] := by
  unfold X4_hasSameEntry_b79 at h
  refine x_iconst C (v := 0) dX4_hasSameEntry_79 (by decide) ?_
  exact X_X4_hasSameEntry_b80 C h
def X4_hasSameEntry_b30 (S : St) (x2 : Int32) : Option (Int32) :=
  (X4_parentAt S x2).bind fun v32 => (X4_parentAt (swS S) x2).bind fun v37 => if v32 = v37 then ((X4_labelAt S x2).bind fun v45 => (X4_labelAt (swS S) x2).bind fun v50 => if v45 = v50 then ((X5_at 42 (S 5) x2).bind fun v61 => (X5_at 42 (S 12) x2).bind fun v69 => if v61 = v69 then (X4_hasSameEntry_b80 S 1) else (X4_hasSameEntry_b79 S)) else (X4_hasSameEntry_b79 S)) else (X4_hasSameEntry_b79 S)
set_option maxHeartbeats 4000000 in
set_option maxRecDepth 100000 in
theorem X_X4_hasSameEntry_b30 {p : Program} {l : Launch} {e : Env} {s : State} {m : MethodId} {args : Array Value} {below : List Frame} {meth : Method} {c : Code} {D : va_G} {cI cZ cJ : ClassId} {ad : Nat → Nat} {rest w0 : va_W} (C : XC p rm_X4_hasSameEntry s m args meth c cX4_hasSameEntry 4 (some .boolean) RX4 wsX4_hasSameEntry D (t3 cI cZ cJ)) {S : St} {x2 : Int32} {r : Int32} (h : X4_hasSameEntry_b30 S x2 = some r) : XW p l e rm_X4_hasSameEntry s m args below meth c D w0 4 (MQ below (QI D (t3 cI cZ cJ) w0 (wE cI cZ ad S rest) s.heap.size r) args s 0 0 (va_A w0 s.heap.size)) (wE cI cZ ad S rest) 0 0 30 [(0, .ref (ad 0)), (1, .ref (ad 7)), (2, .int x2)] [] := by
  unfold X4_hasSameEntry_b30 at h
  refine x_aload_n C 0 dX4_hasSameEntry_30 rfl ?_
  refine x_iload_n C 2 dX4_hasSameEntry_31 rfl ?_
  obtain ⟨v32, hg32, h⟩ := ob h
  refine x_ci0 (x_runV C (As := [.int x2]) (rest := []) (c_X4_parentAt hg32) (cw_X4_hasSameEntry_X4_parentAt_145 C) 0 rfl rfl rfl (Nat.le_of_ble_eq_true rfl) dX4_hasSameEntry_32 ⟨Nat.zero_le _, Nat.zero_le _⟩) ?_
  refine x_aload_n C 1 dX4_hasSameEntry_35 rfl ?_
  refine x_iload_n C 2 dX4_hasSameEntry_36 rfl ?_
  obtain ⟨v37, hg37, h⟩ := ob h
  refine x_world (w' := wE cI cZ (swA ad) (swS S) rest) wE_sw wE_swD ?_
  refine x_ci0 (x_runV C (As := [.int x2]) (rest := [.int v32]) (c_X4_parentAt hg37) (cw_X4_hasSameEntry_X4_parentAt_145 C) 0 rfl rfl rfl (Nat.le_of_ble_eq_true rfl) dX4_hasSameEntry_37 ⟨Nat.zero_le _, Nat.zero_le _⟩) ?_
  refine x_world (w' := wE cI cZ ad S rest) wE_unsw0 wE_unsw0D ?_
  refine x_icmp_ne C (t := 79) dX4_hasSameEntry_40 (by decide) (fun c40 => ?_) (fun c40 => ?_)
  · replace h := (if_neg c40).symm.trans h
    refine x_locals (lv' := []) [] rfl ?_
    exact X_X4_hasSameEntry_b79 C h
  · replace h := (if_pos c40).symm.trans h
    refine x_aload_n C 0 dX4_hasSameEntry_43 rfl ?_
    refine x_iload_n C 2 dX4_hasSameEntry_44 rfl ?_
    obtain ⟨v45, hg45, h⟩ := ob h
    refine x_ci0 (x_runV C (As := [.int x2]) (rest := []) (c_X4_labelAt hg45) (cw_X4_hasSameEntry_X4_labelAt_155 C) 0 rfl rfl rfl (Nat.le_of_ble_eq_true rfl) dX4_hasSameEntry_45 ⟨Nat.zero_le _, Nat.zero_le _⟩) ?_
    refine x_aload_n C 1 dX4_hasSameEntry_48 rfl ?_
    refine x_iload_n C 2 dX4_hasSameEntry_49 rfl ?_
    obtain ⟨v50, hg50, h⟩ := ob h
    refine x_world (w' := wE cI cZ (swA ad) (swS S) rest) wE_sw wE_swD ?_
    refine x_ci0 (x_runV C (As := [.int x2]) (rest := [.int v45]) (c_X4_labelAt hg50) (cw_X4_hasSameEntry_X4_labelAt_155 C) 0 rfl rfl rfl (Nat.le_of_ble_eq_true rfl) dX4_hasSameEntry_50 ⟨Nat.zero_le _, Nat.zero_le _⟩) ?_
    refine x_world (w' := wE cI cZ ad S rest) wE_unsw0 wE_unsw0D ?_
    refine x_icmp_ne C (t := 79) dX4_hasSameEntry_53 (by decide) (fun c53 => ?_) (fun c53 => ?_)
    · replace h := (if_neg c53).symm.trans h
      refine x_locals (lv' := []) [] rfl ?_
      exact X_X4_hasSameEntry_b79 C h
    · replace h := (if_pos c53).symm.trans h
      refine x_aload_n C 0 dX4_hasSameEntry_56 rfl ?_
      refine x_get C (R' := RX4) (T := TX4) (N := 11) (ci := 4) 0 8 rfl rfl (by decide) rfl rfl hi_X4_hasSameEntry_4 lk_X4_hasSameEntry_25 dX4_hasSameEntry_57 ?_
      refine x_iload_n C 2 dX4_hasSameEntry_60 rfl ?_
      obtain ⟨v61, hg61, h⟩ := ob h
      refine x_ci0 (x_runSN C (As := [.ref (ad 5), .int x2]) (rest := []) (c_X5_at 5 rfl hg61) (cw_X4_hasSameEntry_X5_at_58 C) rfl (Nat.le_of_ble_eq_true rfl) dX4_hasSameEntry_61 ⟨Nat.zero_le _, Nat.zero_le _⟩) ?_
      refine x_aload_n C 1 dX4_hasSameEntry_64 rfl ?_
      refine x_get C (R' := RX4) (T := TX4) (N := 11) (ci := 4) 7 8 rfl rfl (by decide) rfl rfl hi_X4_hasSameEntry_4 lk_X4_hasSameEntry_25 dX4_hasSameEntry_65 ?_
      refine x_iload_n C 2 dX4_hasSameEntry_68 rfl ?_
      obtain ⟨v69, hg69, h⟩ := ob h
      refine x_ci0 (x_runSN C (As := [.ref (ad 12), .int x2]) (rest := [.int v61]) (c_X5_at 12 rfl hg69) (cw_X4_hasSameEntry_X5_at_58 C) rfl (Nat.le_of_ble_eq_true rfl) dX4_hasSameEntry_69 ⟨Nat.zero_le _, Nat.zero_le _⟩) ?_
      refine x_icmp_ne C (t := 79) dX4_hasSameEntry_72 (by decide) (fun c72 => ?_) (fun c72 => ?_)
      · replace h := (if_neg c72).symm.trans h
        refine x_locals (lv' := []) [] rfl ?_
        exact X_X4_hasSameEntry_b79 C h
      · replace h := (if_pos c72).symm.trans h
        refine x_iconst C (v := 1) dX4_hasSameEntry_75 (by decide) ?_
        refine x_goto C (t := 80) dX4_hasSameEntry_76 (by decide) ?_
        refine x_locals (lv' := []) [] rfl ?_
        exact X_X4_hasSameEntry_b80 C h
def X4_hasSameEntry_b22 (S : St) : Option (Int32) :=
  some 0
set_option maxHeartbeats 4000000 in
set_option maxRecDepth 100000 in
theorem X_X4_hasSameEntry_b22 {p : Program} {l : Launch} {e : Env} {s : State} {m : MethodId} {args : Array Value} {below : List Frame} {meth : Method} {c : Code} {D : va_G} {cI cZ cJ : ClassId} {ad : Nat → Nat} {rest w0 : va_W} (C : XC p rm_X4_hasSameEntry s m args meth c cX4_hasSameEntry 4 (some .boolean) RX4 wsX4_hasSameEntry D (t3 cI cZ cJ)) {S : St} {r : Int32} (h : X4_hasSameEntry_b22 S = some r) : XW p l e rm_X4_hasSameEntry s m args below meth c D w0 4 (MQ below (QI D (t3 cI cZ cJ) w0 (wE cI cZ ad S rest) s.heap.size r) args s 0 0 (va_A w0 s.heap.size)) (wE cI cZ ad S rest) 0 0 22 [] [] := by
  unfold X4_hasSameEntry_b22 at h
  refine x_iconst C (v := 0) dX4_hasSameEntry_22 (by decide) ?_
  obtain rfl := Option.some.inj h
  exact x_zret C rfl dX4_hasSameEntry_23
def X4_hasSameEntry_H2 (S : St) (x2 x3 : Int32) : Option ((Int32 × Int32) ⊕ (Int32)) :=
  if 4 ≤ x3 then (exI (X4_hasSameEntry_b30 S x2)) else ((X4_valueAt S x2 x3).bind fun v10 => (X4_valueAt (swS S) x2 x3).bind fun v16 => if v10 = v16 then (some (.inl (x2, x3 + 1))) else (exI (X4_hasSameEntry_b22 S)))
set_option maxHeartbeats 4000000 in
set_option maxRecDepth 100000 in
theorem X_X4_hasSameEntry_H2 {p : Program} {l : Launch} {e : Env} {s : State} {m : MethodId} {args : Array Value} {below : List Frame} {meth : Method} {c : Code} {D : va_G} {cI cZ cJ : ClassId} {ad : Nat → Nat} {rest w0 : va_W} (C : XC p rm_X4_hasSameEntry s m args meth c cX4_hasSameEntry 4 (some .boolean) RX4 wsX4_hasSameEntry D (t3 cI cZ cJ)) {S : St} {x2 x3 : Int32} {z : (Int32 × Int32) ⊕ (Int32)} {r : Int32} (h : X4_hasSameEntry_H2 S x2 x3 = some z) (hk : ∀ a' : (Int32 × Int32), z = .inl a' → XW p l e rm_X4_hasSameEntry s m args below meth c D w0 4 (MQ below (QI D (t3 cI cZ cJ) w0 (wE cI cZ ad S rest) s.heap.size r) args s 0 0 (va_A w0 s.heap.size)) (wE cI cZ ad S rest) 0 0 2 [(0, .ref (ad 0)), (1, .ref (ad 7)), (2, .int a'.1), (3, .int a'.2)] []) (hr : ∀ r', z = .inr r' → r' = r) : XW p l e rm_X4_hasSameEntry s m args below meth c D w0 4 (MQ below (QI D (t3 cI cZ cJ) w0 (wE cI cZ ad S rest) s.heap.size r) args s 0 0 (va_A w0 s.heap.size)) (wE cI cZ ad S rest) 0 0 2 [(0, .ref (ad 0)), (1, .ref (ad 7)), (2, .int x2), (3, .int x3)] [] := by
  unfold X4_hasSameEntry_H2 at h
  refine x_iload_n C 3 dX4_hasSameEntry_2 rfl ?_
  refine x_iconst C (v := 4) dX4_hasSameEntry_3 (by decide) ?_
  refine x_icmp_ge C (t := 30) dX4_hasSameEntry_4 (by decide) (fun c4 => ?_) (fun c4 => ?_)
  · replace h := (if_pos c4).symm.trans h
    refine x_locals (lv' := [(0, .ref (ad 0)), (1, .ref (ad 7)), (2, .int x2)]) [0, 1, 2] rfl ?_
    obtain ⟨r1, h1, h2⟩ := exI_some h
    obtain rfl := hr r1 h2
    exact X_X4_hasSameEntry_b30 C h1
  · replace h := (if_neg c4).symm.trans h
    refine x_aload_n C 0 dX4_hasSameEntry_7 rfl ?_
    refine x_iload_n C 2 dX4_hasSameEntry_8 rfl ?_
    refine x_iload_n C 3 dX4_hasSameEntry_9 rfl ?_
    obtain ⟨v10, hg10, h⟩ := ob h
    refine x_ci0 (x_runV C (As := [.int x2, .int x3]) (rest := []) (c_X4_valueAt hg10) (cw_X4_hasSameEntry_X4_valueAt_142 C) 0 rfl rfl rfl (Nat.le_of_ble_eq_true rfl) dX4_hasSameEntry_10 ⟨Nat.zero_le _, Nat.zero_le _⟩) ?_
    refine x_aload_n C 1 dX4_hasSameEntry_13 rfl ?_
    refine x_iload_n C 2 dX4_hasSameEntry_14 rfl ?_
    refine x_iload_n C 3 dX4_hasSameEntry_15 rfl ?_
    obtain ⟨v16, hg16, h⟩ := ob h
    refine x_world (w' := wE cI cZ (swA ad) (swS S) rest) wE_sw wE_swD ?_
    refine x_ci0 (x_runV C (As := [.int x2, .int x3]) (rest := [.int v10]) (c_X4_valueAt hg16) (cw_X4_hasSameEntry_X4_valueAt_142 C) 0 rfl rfl rfl (Nat.le_of_ble_eq_true rfl) dX4_hasSameEntry_16 ⟨Nat.zero_le _, Nat.zero_le _⟩) ?_
    refine x_world (w' := wE cI cZ ad S rest) wE_unsw0 wE_unsw0D ?_
    refine x_icmp_eq C (t := 24) dX4_hasSameEntry_19 (by decide) (fun c19 => ?_) (fun c19 => ?_)
    · replace h := (if_pos c19).symm.trans h
      refine x_iinc C (v := x3 + 1) (lv' := [(0, .ref (ad 0)), (1, .ref (ad 7)), (2, .int x2), (3, .int (x3 + 1))]) 3 dX4_hasSameEntry_24 rfl rfl (by decide) rfl ?_
      refine x_goto C (t := 2) dX4_hasSameEntry_27 (by decide) ?_
      exact hk _ (Option.some.inj h).symm
    · replace h := (if_neg c19).symm.trans h
      refine x_locals (lv' := []) [] rfl ?_
      obtain ⟨r1, h1, h2⟩ := exI_some h
      obtain rfl := hr r1 h2
      exact X_X4_hasSameEntry_b22 C h1
def X4_hasSameEntry_L2 (S : St) (x2 x3 : Int32) : Option (Int32) := wloop (fun a' : (Int32 × Int32) => X4_hasSameEntry_H2 S a'.1 a'.2) 1000 (x2, x3)
set_option maxHeartbeats 4000000 in
set_option maxRecDepth 100000 in
theorem X_X4_hasSameEntry_L2 {p : Program} {l : Launch} {e : Env} {s : State} {m : MethodId} {args : Array Value} {below : List Frame} {meth : Method} {c : Code} {D : va_G} {cI cZ cJ : ClassId} {ad : Nat → Nat} {rest w0 : va_W} (C : XC p rm_X4_hasSameEntry s m args meth c cX4_hasSameEntry 4 (some .boolean) RX4 wsX4_hasSameEntry D (t3 cI cZ cJ)) {S : St} {x2 x3 : Int32} {r : Int32} (h : X4_hasSameEntry_L2 S x2 x3 = some r) : XW p l e rm_X4_hasSameEntry s m args below meth c D w0 4 (MQ below (QI D (t3 cI cZ cJ) w0 (wE cI cZ ad S rest) s.heap.size r) args s 0 0 (va_A w0 s.heap.size)) (wE cI cZ ad S rest) 0 0 2 [(0, .ref (ad 0)), (1, .ref (ad 7)), (2, .int x2), (3, .int x3)] [] :=
  wloop_met (P := (fun a' : (Int32 × Int32) => XW p l e rm_X4_hasSameEntry s m args below meth c D w0 4 (MQ below (QI D (t3 cI cZ cJ) w0 (wE cI cZ ad S rest) s.heap.size r) args s 0 0 (va_A w0 s.heap.size)) (wE cI cZ ad S rest) 0 0 2 [(0, .ref (ad 0)), (1, .ref (ad 7)), (2, .int a'.1), (3, .int a'.2)] [])) (fun _ _ hz hk hr => X_X4_hasSameEntry_H2 C hz hk hr) 1000 (x2, x3) h
def X4_hasSameEntry (S : St) (x2 : Int32) : Option (Int32) :=
  X4_hasSameEntry_L2 S x2 0
set_option maxHeartbeats 4000000 in
set_option maxRecDepth 100000 in
theorem X_X4_hasSameEntry {p : Program} {l : Launch} {e : Env} {s : State} {m : MethodId} {args : Array Value} {below : List Frame} {meth : Method} {c : Code} {D : va_G} {cI cZ cJ : ClassId} {ad : Nat → Nat} {rest w0 : va_W} (C : XC p rm_X4_hasSameEntry s m args meth c cX4_hasSameEntry 4 (some .boolean) RX4 wsX4_hasSameEntry D (t3 cI cZ cJ)) {S : St} {x2 : Int32} {r : Int32} (h : X4_hasSameEntry S x2 = some r) : XW p l e rm_X4_hasSameEntry s m args below meth c D w0 4 (MQ below (QI D (t3 cI cZ cJ) w0 (wE cI cZ ad S rest) s.heap.size r) args s 0 0 (va_A w0 s.heap.size)) (wE cI cZ ad S rest) 0 0 0 [(0, .ref (ad 0)), (1, .ref (ad 7)), (2, .int x2)] [] := by
  unfold X4_hasSameEntry at h
  refine x_iconst C (v := 0) dX4_hasSameEntry_0 (by decide) ?_
  refine x_istore_n C (lv' := [(0, .ref (ad 0)), (1, .ref (ad 7)), (2, .int x2), (3, .int 0)]) dX4_hasSameEntry_1 (by decide) rfl ?_
  exact X_X4_hasSameEntry_L2 C h
set_option maxRecDepth 100000 in
theorem c_X4_hasSameEntry {l : Launch} {D : va_G} {cI cZ cJ : ClassId} {ad : Nat → Nat} {S : St} {rest : va_W} {x2 : Int32} {r : Int32} (h : X4_hasSameEntry S x2 = some r) : ∀ sz, Met l yX4_hasSameEntry wsX4_hasSameEntry rm_X4_hasSameEntry (PC D (t3 cI cZ cJ) [.ref (ad 0), .ref (ad 7), .int x2] (wE cI cZ ad S rest) sz) (QI D (t3 cI cZ cJ) (wE cI cZ ad S rest) (wE cI cZ ad S rest) sz r) 0 0 (va_A (wE cI cZ ad S rest) sz) := by
  refine x_met (Qc := fun sz => QI D (t3 cI cZ cJ) (wE cI cZ ad S rest) (wE cI cZ ad S rest) sz r) RX4 rfl (by decide) rfl (Nat.le_of_ble_eq_true rfl) (fun p e s m args below meth c C => ?_)
  exact X_X4_hasSameEntry C h
/-! EntryMasters$Tree.isSameAs(LEntryMasters$Tree;)Z -/
abbrev rm_X4_isSameAs : Room := { frames := 3, cells := 0, slots := 0, locals := 66 }
theorem hi_X4_isSameAs_4 : ∀ z ∈ u_ws RX4 TX4 11, z ∈ wsX4_isSameAs := by decide +kernel
theorem lk_X4_isSameAs_15 : Cond.fieldLink RX4 15 RX4 "there" "[Z" ∈ wsX4_isSameAs := by decide +kernel
theorem cw_X4_isSameAs_X4_hasSameEntry_151 {p : Program} {s : State} {m : MethodId} {args : Array Value} {meth : Method} {c : Code} {D : va_G} {tys : List (ClassId × FieldType)} {R : Room} (C : XC p R s m args meth c cX4_isSameAs 3 (some .boolean) RX4 wsX4_isSameAs D tys) : CallW rm_X4_isSameAs s args RX4 RX4 151 yX4_hasSameEntry cX4_hasSameEntry 4 (some .boolean) wsX4_hasSameEntry rm_X4_hasSameEntry 0 0 2 := cwV 2 C.2.2.2.2.1 gX4_isSameAs_X4_hasSameEntry rfl rfl rfl (by decide +kernel) ⟨Nat.le_of_ble_eq_true rfl, Nat.le_of_ble_eq_true rfl⟩
def X4_isSameAs_b51 (S : St) : Option (Int32) :=
  some 1
set_option maxHeartbeats 4000000 in
set_option maxRecDepth 100000 in
theorem X_X4_isSameAs_b51 {p : Program} {l : Launch} {e : Env} {s : State} {m : MethodId} {args : Array Value} {below : List Frame} {meth : Method} {c : Code} {D : va_G} {cI cZ cJ : ClassId} {ad : Nat → Nat} {rest w0 : va_W} (C : XC p rm_X4_isSameAs s m args meth c cX4_isSameAs 3 (some .boolean) RX4 wsX4_isSameAs D (t3 cI cZ cJ)) {S : St} {r : Int32} (h : X4_isSameAs_b51 S = some r) : XW p l e rm_X4_isSameAs s m args below meth c D w0 3 (MQ below (QI D (t3 cI cZ cJ) w0 (wE cI cZ ad S rest) s.heap.size r) args s 0 0 (va_A w0 s.heap.size)) (wE cI cZ ad S rest) 0 0 51 [] [] := by
  unfold X4_isSameAs_b51 at h
  refine x_iconst C (v := 1) dX4_isSameAs_51 (by decide) ?_
  obtain rfl := Option.some.inj h
  exact x_zret C rfl dX4_isSameAs_52
def X4_isSameAs_b45 (S : St) (x2 : Int32) : Option ((Int32) ⊕ (Int32)) :=
  some (.inl (x2 + 1))
set_option maxHeartbeats 4000000 in
set_option maxRecDepth 100000 in
theorem X_X4_isSameAs_b45 {p : Program} {l : Launch} {e : Env} {s : State} {m : MethodId} {args : Array Value} {below : List Frame} {meth : Method} {c : Code} {D : va_G} {cI cZ cJ : ClassId} {ad : Nat → Nat} {rest w0 : va_W} (C : XC p rm_X4_isSameAs s m args meth c cX4_isSameAs 3 (some .boolean) RX4 wsX4_isSameAs D (t3 cI cZ cJ)) {S : St} {x2 : Int32} {z : (Int32) ⊕ (Int32)} {r : Int32} (h : X4_isSameAs_b45 S x2 = some z) (hk : ∀ a' : (Int32), z = .inl a' → XW p l e rm_X4_isSameAs s m args below meth c D w0 3 (MQ below (QI D (t3 cI cZ cJ) w0 (wE cI cZ ad S rest) s.heap.size r) args s 0 0 (va_A w0 s.heap.size)) (wE cI cZ ad S rest) 0 0 2 [(0, .ref (ad 0)), (1, .ref (ad 7)), (2, .int a')] []) (hr : ∀ r', z = .inr r' → r' = r) : XW p l e rm_X4_isSameAs s m args below meth c D w0 3 (MQ below (QI D (t3 cI cZ cJ) w0 (wE cI cZ ad S rest) s.heap.size r) args s 0 0 (va_A w0 s.heap.size)) (wE cI cZ ad S rest) 0 0 45 [(0, .ref (ad 0)), (1, .ref (ad 7)), (2, .int x2)] [] := by
  unfold X4_isSameAs_b45 at h
  refine x_iinc C (v := x2 + 1) (lv' := [(0, .ref (ad 0)), (1, .ref (ad 7)), (2, .int (x2 + 1))]) 2 dX4_isSameAs_45 rfl rfl (by decide) rfl ?_
  refine x_goto C (t := 2) dX4_isSameAs_48 (by decide) ?_
  exact hk _ (Option.some.inj h).symm
def X4_isSameAs_b43 (S : St) : Option (Int32) :=
  some 0
set_option maxHeartbeats 4000000 in
set_option maxRecDepth 100000 in
theorem X_X4_isSameAs_b43 {p : Program} {l : Launch} {e : Env} {s : State} {m : MethodId} {args : Array Value} {below : List Frame} {meth : Method} {c : Code} {D : va_G} {cI cZ cJ : ClassId} {ad : Nat → Nat} {rest w0 : va_W} (C : XC p rm_X4_isSameAs s m args meth c cX4_isSameAs 3 (some .boolean) RX4 wsX4_isSameAs D (t3 cI cZ cJ)) {S : St} {r : Int32} (h : X4_isSameAs_b43 S = some r) : XW p l e rm_X4_isSameAs s m args below meth c D w0 3 (MQ below (QI D (t3 cI cZ cJ) w0 (wE cI cZ ad S rest) s.heap.size r) args s 0 0 (va_A w0 s.heap.size)) (wE cI cZ ad S rest) 0 0 43 [] [] := by
  unfold X4_isSameAs_b43 at h
  refine x_iconst C (v := 0) dX4_isSameAs_43 (by decide) ?_
  obtain rfl := Option.some.inj h
  exact x_zret C rfl dX4_isSameAs_44
def X4_isSameAs_b23 (S : St) : Option (Int32) :=
  some 0
set_option maxHeartbeats 4000000 in
set_option maxRecDepth 100000 in
theorem X_X4_isSameAs_b23 {p : Program} {l : Launch} {e : Env} {s : State} {m : MethodId} {args : Array Value} {below : List Frame} {meth : Method} {c : Code} {D : va_G} {cI cZ cJ : ClassId} {ad : Nat → Nat} {rest w0 : va_W} (C : XC p rm_X4_isSameAs s m args meth c cX4_isSameAs 3 (some .boolean) RX4 wsX4_isSameAs D (t3 cI cZ cJ)) {S : St} {r : Int32} (h : X4_isSameAs_b23 S = some r) : XW p l e rm_X4_isSameAs s m args below meth c D w0 3 (MQ below (QI D (t3 cI cZ cJ) w0 (wE cI cZ ad S rest) s.heap.size r) args s 0 0 (va_A w0 s.heap.size)) (wE cI cZ ad S rest) 0 0 23 [] [] := by
  unfold X4_isSameAs_b23 at h
  refine x_iconst C (v := 0) dX4_isSameAs_23 (by decide) ?_
  obtain rfl := Option.some.inj h
  exact x_zret C rfl dX4_isSameAs_24
def X4_isSameAs_H2 (S : St) (x2 : Int32) : Option ((Int32) ⊕ (Int32)) :=
  if 42 ≤ x2 then (exI (X4_isSameAs_b51 S)) else (if inB x2 42 then (if inB x2 42 then (if (S 2 x2.toNatClampNeg) = (S 9 x2.toNatClampNeg) then (if inB x2 42 then (if (S 2 x2.toNatClampNeg) = 0 then (X4_isSameAs_b45 S x2) else ((X4_hasSameEntry S x2).bind fun v37 => if v37 = 0 then (exI (X4_isSameAs_b43 S)) else (X4_isSameAs_b45 S x2))) else none) else (exI (X4_isSameAs_b23 S))) else none) else none)
set_option maxHeartbeats 4000000 in
set_option maxRecDepth 100000 in
theorem X_X4_isSameAs_H2 {p : Program} {l : Launch} {e : Env} {s : State} {m : MethodId} {args : Array Value} {below : List Frame} {meth : Method} {c : Code} {D : va_G} {cI cZ cJ : ClassId} {ad : Nat → Nat} {rest w0 : va_W} (C : XC p rm_X4_isSameAs s m args meth c cX4_isSameAs 3 (some .boolean) RX4 wsX4_isSameAs D (t3 cI cZ cJ)) {S : St} {x2 : Int32} {z : (Int32) ⊕ (Int32)} {r : Int32} (h : X4_isSameAs_H2 S x2 = some z) (hk : ∀ a' : (Int32), z = .inl a' → XW p l e rm_X4_isSameAs s m args below meth c D w0 3 (MQ below (QI D (t3 cI cZ cJ) w0 (wE cI cZ ad S rest) s.heap.size r) args s 0 0 (va_A w0 s.heap.size)) (wE cI cZ ad S rest) 0 0 2 [(0, .ref (ad 0)), (1, .ref (ad 7)), (2, .int a')] []) (hr : ∀ r', z = .inr r' → r' = r) : XW p l e rm_X4_isSameAs s m args below meth c D w0 3 (MQ below (QI D (t3 cI cZ cJ) w0 (wE cI cZ ad S rest) s.heap.size r) args s 0 0 (va_A w0 s.heap.size)) (wE cI cZ ad S rest) 0 0 2 [(0, .ref (ad 0)), (1, .ref (ad 7)), (2, .int x2)] [] := by
  unfold X4_isSameAs_H2 at h
  refine x_iload_n C 2 dX4_isSameAs_2 rfl ?_
  refine x_bipush C (v := 42) dX4_isSameAs_3 (by decide) ?_
  refine x_icmp_ge C (t := 51) dX4_isSameAs_5 (by decide) (fun c5 => ?_) (fun c5 => ?_)
  · replace h := (if_pos c5).symm.trans h
    refine x_locals (lv' := []) [] rfl ?_
    obtain ⟨r1, h1, h2⟩ := exI_some h
    obtain rfl := hr r1 h2
    exact X_X4_isSameAs_b51 C h1
  · replace h := (if_neg c5).symm.trans h
    refine x_aload_n C 0 dX4_isSameAs_8 rfl ?_
    refine x_get C (R' := RX4) (T := TX4) (N := 11) (ci := 4) 0 5 rfl rfl (by decide) rfl rfl hi_X4_isSameAs_4 lk_X4_isSameAs_15 dX4_isSameAs_9 ?_
    refine x_iload_n C 2 dX4_isSameAs_12 rfl ?_
    obtain ⟨g13, h⟩ := gdB h
    refine x_zald C 2 rfl g13 dX4_isSameAs_13 ?_
    refine x_aload_n C 1 dX4_isSameAs_14 rfl ?_
    refine x_get C (R' := RX4) (T := TX4) (N := 11) (ci := 4) 7 5 rfl rfl (by decide) rfl rfl hi_X4_isSameAs_4 lk_X4_isSameAs_15 dX4_isSameAs_15 ?_
    refine x_iload_n C 2 dX4_isSameAs_18 rfl ?_
    obtain ⟨g19, h⟩ := gdB h
    refine x_zald C 9 rfl g19 dX4_isSameAs_19 ?_
    refine x_icmp_eq C (t := 25) dX4_isSameAs_20 (by decide) (fun c20 => ?_) (fun c20 => ?_)
    · replace h := (if_pos c20).symm.trans h
      refine x_aload_n C 0 dX4_isSameAs_25 rfl ?_
      refine x_get C (R' := RX4) (T := TX4) (N := 11) (ci := 4) 0 5 rfl rfl (by decide) rfl rfl hi_X4_isSameAs_4 lk_X4_isSameAs_15 dX4_isSameAs_26 ?_
      refine x_iload_n C 2 dX4_isSameAs_29 rfl ?_
      obtain ⟨g30, h⟩ := gdB h
      refine x_zald C 2 rfl g30 dX4_isSameAs_30 ?_
      refine x_if_eq C (t := 45) dX4_isSameAs_31 (by decide) (fun c31 => ?_) (fun c31 => ?_)
      · replace h := (if_pos c31).symm.trans h
        exact X_X4_isSameAs_b45 C h hk hr
      · replace h := (if_neg c31).symm.trans h
        refine x_aload_n C 0 dX4_isSameAs_34 rfl ?_
        refine x_aload_n C 1 dX4_isSameAs_35 rfl ?_
        refine x_iload_n C 2 dX4_isSameAs_36 rfl ?_
        obtain ⟨v37, hg37, h⟩ := ob h
        refine x_ci0 (x_runV C (As := [.ref (ad 7), .int x2]) (rest := []) (c_X4_hasSameEntry hg37) (cw_X4_isSameAs_X4_hasSameEntry_151 C) 0 rfl rfl rfl (Nat.le_of_ble_eq_true rfl) dX4_isSameAs_37 ⟨Nat.zero_le _, Nat.zero_le _⟩) ?_
        refine x_if_ne C (t := 45) dX4_isSameAs_40 (by decide) (fun c40 => ?_) (fun c40 => ?_)
        · replace h := (if_neg c40).symm.trans h
          exact X_X4_isSameAs_b45 C h hk hr
        · replace h := (if_pos c40).symm.trans h
          refine x_locals (lv' := []) [] rfl ?_
          obtain ⟨r1, h1, h2⟩ := exI_some h
          obtain rfl := hr r1 h2
          exact X_X4_isSameAs_b43 C h1
    · replace h := (if_neg c20).symm.trans h
      refine x_locals (lv' := []) [] rfl ?_
      obtain ⟨r1, h1, h2⟩ := exI_some h
      obtain rfl := hr r1 h2
      exact X_X4_isSameAs_b23 C h1
def X4_isSameAs_L2 (S : St) (x2 : Int32) : Option (Int32) := wloop (fun a' : (Int32) => X4_isSameAs_H2 S a') 1000 x2
set_option maxHeartbeats 4000000 in
set_option maxRecDepth 100000 in
theorem X_X4_isSameAs_L2 {p : Program} {l : Launch} {e : Env} {s : State} {m : MethodId} {args : Array Value} {below : List Frame} {meth : Method} {c : Code} {D : va_G} {cI cZ cJ : ClassId} {ad : Nat → Nat} {rest w0 : va_W} (C : XC p rm_X4_isSameAs s m args meth c cX4_isSameAs 3 (some .boolean) RX4 wsX4_isSameAs D (t3 cI cZ cJ)) {S : St} {x2 : Int32} {r : Int32} (h : X4_isSameAs_L2 S x2 = some r) : XW p l e rm_X4_isSameAs s m args below meth c D w0 3 (MQ below (QI D (t3 cI cZ cJ) w0 (wE cI cZ ad S rest) s.heap.size r) args s 0 0 (va_A w0 s.heap.size)) (wE cI cZ ad S rest) 0 0 2 [(0, .ref (ad 0)), (1, .ref (ad 7)), (2, .int x2)] [] :=
  wloop_met (P := (fun a' : (Int32) => XW p l e rm_X4_isSameAs s m args below meth c D w0 3 (MQ below (QI D (t3 cI cZ cJ) w0 (wE cI cZ ad S rest) s.heap.size r) args s 0 0 (va_A w0 s.heap.size)) (wE cI cZ ad S rest) 0 0 2 [(0, .ref (ad 0)), (1, .ref (ad 7)), (2, .int a')] [])) (fun _ _ hz hk hr => X_X4_isSameAs_H2 C hz hk hr) 1000 x2 h
def X4_isSameAs (S : St) : Option (Int32) :=
  X4_isSameAs_L2 S 0
set_option maxHeartbeats 4000000 in
set_option maxRecDepth 100000 in
theorem X_X4_isSameAs {p : Program} {l : Launch} {e : Env} {s : State} {m : MethodId} {args : Array Value} {below : List Frame} {meth : Method} {c : Code} {D : va_G} {cI cZ cJ : ClassId} {ad : Nat → Nat} {rest w0 : va_W} (C : XC p rm_X4_isSameAs s m args meth c cX4_isSameAs 3 (some .boolean) RX4 wsX4_isSameAs D (t3 cI cZ cJ)) {S : St} {r : Int32} (h : X4_isSameAs S = some r) : XW p l e rm_X4_isSameAs s m args below meth c D w0 3 (MQ below (QI D (t3 cI cZ cJ) w0 (wE cI cZ ad S rest) s.heap.size r) args s 0 0 (va_A w0 s.heap.size)) (wE cI cZ ad S rest) 0 0 0 [(0, .ref (ad 0)), (1, .ref (ad 7))] [] := by
  unfold X4_isSameAs at h
  refine x_iconst C (v := 0) dX4_isSameAs_0 (by decide) ?_
  refine x_istore_n C (lv' := [(0, .ref (ad 0)), (1, .ref (ad 7)), (2, .int 0)]) dX4_isSameAs_1 (by decide) rfl ?_
  exact X_X4_isSameAs_L2 C h
set_option maxRecDepth 100000 in
theorem c_X4_isSameAs {l : Launch} {D : va_G} {cI cZ cJ : ClassId} {ad : Nat → Nat} {S : St} {rest : va_W} {r : Int32} (h : X4_isSameAs S = some r) : ∀ sz, Met l yX4_isSameAs wsX4_isSameAs rm_X4_isSameAs (PC D (t3 cI cZ cJ) [.ref (ad 0), .ref (ad 7)] (wE cI cZ ad S rest) sz) (QI D (t3 cI cZ cJ) (wE cI cZ ad S rest) (wE cI cZ ad S rest) sz r) 0 0 (va_A (wE cI cZ ad S rest) sz) := by
  refine x_met (Qc := fun sz => QI D (t3 cI cZ cJ) (wE cI cZ ad S rest) (wE cI cZ ad S rest) sz r) RX4 rfl (by decide) rfl (Nat.le_of_ble_eq_true rfl) (fun p e s m args below meth c C => ?_)
  exact X_X4_isSameAs C h
/-! EntryMasters$Tree.orderUnderParent(I)I -/
abbrev rm_X4_orderUnderParent : Room := { frames := 2, cells := 0, slots := 0, locals := 42 }
theorem cw_X4_orderUnderParent_X4_labelAt_155 {p : Program} {s : State} {m : MethodId} {args : Array Value} {meth : Method} {c : Code} {D : va_G} {tys : List (ClassId × FieldType)} {R : Room} (C : XC p R s m args meth c cX4_orderUnderParent 3 (some .int) RX4 wsX4_orderUnderParent D tys) : CallW rm_X4_orderUnderParent s args RX4 RX4 155 yX4_labelAt cX4_labelAt 2 (some .int) wsX4_labelAt rm_X4_labelAt 0 0 1 := cwV 1 C.2.2.2.2.1 gX4_orderUnderParent_X4_labelAt rfl rfl rfl (by decide +kernel) ⟨Nat.le_of_ble_eq_true rfl, Nat.le_of_ble_eq_true rfl⟩
def X4_orderUnderParent_b19 (S : St) (s0 : Int32) : Option (Int32) :=
  some s0
set_option maxHeartbeats 4000000 in
set_option maxRecDepth 100000 in
theorem X_X4_orderUnderParent_b19 {p : Program} {l : Launch} {e : Env} {s : State} {m : MethodId} {args : Array Value} {below : List Frame} {meth : Method} {c : Code} {D : va_G} {cI cZ cJ : ClassId} {ad : Nat → Nat} {rest w0 : va_W} (C : XC p rm_X4_orderUnderParent s m args meth c cX4_orderUnderParent 3 (some .int) RX4 wsX4_orderUnderParent D (t3 cI cZ cJ)) {S : St} {s0 : Int32} {r : Int32} (h : X4_orderUnderParent_b19 S s0 = some r) : XW p l e rm_X4_orderUnderParent s m args below meth c D w0 3 (MQ below (QI D (t3 cI cZ cJ) w0 (wE cI cZ ad S rest) s.heap.size r) args s 0 0 (va_A w0 s.heap.size)) (wE cI cZ ad S rest) 0 0 19 [] [.int s0] := by
  unfold X4_orderUnderParent_b19 at h
  obtain rfl := Option.some.inj h
  exact x_iret C dX4_orderUnderParent_19
def X4_orderUnderParent (S : St) (x1 : Int32) : Option (Int32) :=
  (X4_labelAt S x1).bind fun v2 => if v2 = (-1) then (X4_orderUnderParent_b19 S (100 + x1)) else (X4_orderUnderParent_b19 S v2)
set_option maxHeartbeats 4000000 in
set_option maxRecDepth 100000 in
theorem X_X4_orderUnderParent {p : Program} {l : Launch} {e : Env} {s : State} {m : MethodId} {args : Array Value} {below : List Frame} {meth : Method} {c : Code} {D : va_G} {cI cZ cJ : ClassId} {ad : Nat → Nat} {rest w0 : va_W} (C : XC p rm_X4_orderUnderParent s m args meth c cX4_orderUnderParent 3 (some .int) RX4 wsX4_orderUnderParent D (t3 cI cZ cJ)) {S : St} {x1 : Int32} {r : Int32} (h : X4_orderUnderParent S x1 = some r) : XW p l e rm_X4_orderUnderParent s m args below meth c D w0 3 (MQ below (QI D (t3 cI cZ cJ) w0 (wE cI cZ ad S rest) s.heap.size r) args s 0 0 (va_A w0 s.heap.size)) (wE cI cZ ad S rest) 0 0 0 [(0, .ref (ad 0)), (1, .int x1)] [] := by
  unfold X4_orderUnderParent at h
  refine x_aload_n C 0 dX4_orderUnderParent_0 rfl ?_
  refine x_iload_n C 1 dX4_orderUnderParent_1 rfl ?_
  obtain ⟨v2, hg2, h⟩ := ob h
  refine x_ci0 (x_runV C (As := [.int x1]) (rest := []) (c_X4_labelAt hg2) (cw_X4_orderUnderParent_X4_labelAt_155 C) 0 rfl rfl rfl (Nat.le_of_ble_eq_true rfl) dX4_orderUnderParent_2 ⟨Nat.zero_le _, Nat.zero_le _⟩) ?_
  refine x_istore_n C (lv' := [(0, .ref (ad 0)), (1, .int x1), (2, .int v2)]) dX4_orderUnderParent_5 (by decide) rfl ?_
  refine x_iload_n C 2 dX4_orderUnderParent_6 rfl ?_
  refine x_iconst C (v := (-1)) dX4_orderUnderParent_7 (by decide) ?_
  refine x_icmp_eq C (t := 15) dX4_orderUnderParent_8 (by decide) (fun c8 => ?_) (fun c8 => ?_)
  · replace h := (if_pos c8).symm.trans h
    refine x_bipush C (v := 100) dX4_orderUnderParent_15 (by decide) ?_
    refine x_iload_n C 1 dX4_orderUnderParent_17 rfl ?_
    refine x_iadd C dX4_orderUnderParent_18 ?_
    refine x_locals (lv' := []) [] rfl ?_
    exact X_X4_orderUnderParent_b19 C h
  · replace h := (if_neg c8).symm.trans h
    refine x_iload_n C 2 dX4_orderUnderParent_11 rfl ?_
    refine x_goto C (t := 19) dX4_orderUnderParent_12 (by decide) ?_
    refine x_locals (lv' := []) [] rfl ?_
    exact X_X4_orderUnderParent_b19 C h
set_option maxRecDepth 100000 in
theorem c_X4_orderUnderParent {l : Launch} {D : va_G} {cI cZ cJ : ClassId} {ad : Nat → Nat} {S : St} {rest : va_W} {x1 : Int32} {r : Int32} (h : X4_orderUnderParent S x1 = some r) : ∀ sz, Met l yX4_orderUnderParent wsX4_orderUnderParent rm_X4_orderUnderParent (PC D (t3 cI cZ cJ) [.ref (ad 0), .int x1] (wE cI cZ ad S rest) sz) (QI D (t3 cI cZ cJ) (wE cI cZ ad S rest) (wE cI cZ ad S rest) sz r) 0 0 (va_A (wE cI cZ ad S rest) sz) := by
  refine x_met (Qc := fun sz => QI D (t3 cI cZ cJ) (wE cI cZ ad S rest) (wE cI cZ ad S rest) sz r) RX4 rfl (by decide) rfl (Nat.le_of_ble_eq_true rfl) (fun p e s m args below meth c C => ?_)
  exact X_X4_orderUnderParent C h
/-! EntryMasters$Tree.childAfter(IILEntryMasters$Marks;)I -/
abbrev rm_X4_childAfter : Room := { frames := 3, cells := 0, slots := 0, locals := 64 }
theorem hi_X4_childAfter_4 : ∀ z ∈ u_ws RX4 TX4 11, z ∈ wsX4_childAfter := by decide +kernel
theorem lk_X4_childAfter_19 : Cond.fieldLink RX4 19 RX4 "parents" "[I" ∈ wsX4_childAfter := by decide +kernel
theorem cw_X4_childAfter_X3_isReferral_158 {p : Program} {s : State} {m : MethodId} {args : Array Value} {meth : Method} {c : Code} {D : va_G} {tys : List (ClassId × FieldType)} {R : Room} (C : XC p R s m args meth c cX4_childAfter 6 (some .int) RX4 wsX4_childAfter D tys) : CallW rm_X4_childAfter s args RX4 RX3 158 yX3_isReferral cX3_isReferral 2 (some .boolean) wsX3_isReferral rm_X3_isReferral 0 0 1 := cwV 1 C.2.2.2.2.1 gX4_childAfter_X3_isReferral rfl rfl rfl (by decide +kernel) ⟨Nat.le_of_ble_eq_true rfl, Nat.le_of_ble_eq_true rfl⟩
theorem cw_X4_childAfter_X4_orderUnderParent_163 {p : Program} {s : State} {m : MethodId} {args : Array Value} {meth : Method} {c : Code} {D : va_G} {tys : List (ClassId × FieldType)} {R : Room} (C : XC p R s m args meth c cX4_childAfter 6 (some .int) RX4 wsX4_childAfter D tys) : CallW rm_X4_childAfter s args RX4 RX4 163 yX4_orderUnderParent cX4_orderUnderParent 3 (some .int) wsX4_orderUnderParent rm_X4_orderUnderParent 0 0 1 := cwV 1 C.2.2.2.2.1 gX4_childAfter_X4_orderUnderParent rfl rfl rfl (by decide +kernel) ⟨Nat.le_of_ble_eq_true rfl, Nat.le_of_ble_eq_true rfl⟩
def X4_childAfter_b74 (S : St) (x4 : Int32) : Option (Int32) :=
  some x4
set_option maxHeartbeats 4000000 in
set_option maxRecDepth 100000 in
theorem X_X4_childAfter_b74 {p : Program} {l : Launch} {e : Env} {s : State} {m : MethodId} {args : Array Value} {below : List Frame} {meth : Method} {c : Code} {D : va_G} {cI cZ cJ : ClassId} {ad : Nat → Nat} {rest w0 : va_W} (C : XC p rm_X4_childAfter s m args meth c cX4_childAfter 6 (some .int) RX4 wsX4_childAfter D (t3 cI cZ cJ)) {S : St} {x4 : Int32} {r : Int32} (h : X4_childAfter_b74 S x4 = some r) : XW p l e rm_X4_childAfter s m args below meth c D w0 6 (MQ below (QI D (t3 cI cZ cJ) w0 (wE cI cZ ad S rest) s.heap.size r) args s 0 0 (va_A w0 s.heap.size)) (wE cI cZ ad S rest) 0 0 74 [(4, .int x4)] [] := by
  unfold X4_childAfter_b74 at h
  refine x_iload C 0 dX4_childAfter_74 rfl ?_
  obtain rfl := Option.some.inj h
  exact x_iret C dX4_childAfter_76
def X4_childAfter_b68 (S : St) (x1 x2 x4 x5 : Int32) : Option ((Int32 × Int32 × Int32 × Int32) ⊕ (Int32)) :=
  some (.inl (x1, x2, x4, x5 + 1))
set_option maxHeartbeats 4000000 in
set_option maxRecDepth 100000 in
theorem X_X4_childAfter_b68 {p : Program} {l : Launch} {e : Env} {s : State} {m : MethodId} {args : Array Value} {below : List Frame} {meth : Method} {c : Code} {D : va_G} {cI cZ cJ : ClassId} {ad : Nat → Nat} {rest w0 : va_W} (C : XC p rm_X4_childAfter s m args meth c cX4_childAfter 6 (some .int) RX4 wsX4_childAfter D (t3 cI cZ cJ)) {S : St} {x1 x2 x4 x5 : Int32} {z : (Int32 × Int32 × Int32 × Int32) ⊕ (Int32)} {r : Int32} (h : X4_childAfter_b68 S x1 x2 x4 x5 = some z) (hk : ∀ a' : (Int32 × Int32 × Int32 × Int32), z = .inl a' → XW p l e rm_X4_childAfter s m args below meth c D w0 6 (MQ below (QI D (t3 cI cZ cJ) w0 (wE cI cZ ad S rest) s.heap.size r) args s 0 0 (va_A w0 s.heap.size)) (wE cI cZ ad S rest) 0 0 6 [(0, .ref (ad 0)), (1, .int a'.1), (2, .int a'.2.1), (3, .ref (ad 24)), (4, .int a'.2.2.1), (5, .int a'.2.2.2)] []) (hr : ∀ r', z = .inr r' → r' = r) : XW p l e rm_X4_childAfter s m args below meth c D w0 6 (MQ below (QI D (t3 cI cZ cJ) w0 (wE cI cZ ad S rest) s.heap.size r) args s 0 0 (va_A w0 s.heap.size)) (wE cI cZ ad S rest) 0 0 68 [(0, .ref (ad 0)), (1, .int x1), (2, .int x2), (3, .ref (ad 24)), (4, .int x4), (5, .int x5)] [] := by
  unfold X4_childAfter_b68 at h
  refine x_iinc C (v := x5 + 1) (lv' := [(0, .ref (ad 0)), (1, .int x1), (2, .int x2), (3, .ref (ad 24)), (4, .int x4), (5, .int (x5 + 1))]) 5 dX4_childAfter_68 rfl rfl (by decide) rfl ?_
  refine x_goto C (t := 6) dX4_childAfter_71 (by decide) ?_
  exact hk _ (Option.some.inj h).symm
def X4_childAfter_b64 (S : St) (x1 x2 x5 : Int32) : Option ((Int32 × Int32 × Int32 × Int32) ⊕ (Int32)) :=
  X4_childAfter_b68 S x1 x2 x5 x5
set_option maxHeartbeats 4000000 in
set_option maxRecDepth 100000 in
theorem X_X4_childAfter_b64 {p : Program} {l : Launch} {e : Env} {s : State} {m : MethodId} {args : Array Value} {below : List Frame} {meth : Method} {c : Code} {D : va_G} {cI cZ cJ : ClassId} {ad : Nat → Nat} {rest w0 : va_W} (C : XC p rm_X4_childAfter s m args meth c cX4_childAfter 6 (some .int) RX4 wsX4_childAfter D (t3 cI cZ cJ)) {S : St} {x1 x2 x5 : Int32} {z : (Int32 × Int32 × Int32 × Int32) ⊕ (Int32)} {r : Int32} (h : X4_childAfter_b64 S x1 x2 x5 = some z) (hk : ∀ a' : (Int32 × Int32 × Int32 × Int32), z = .inl a' → XW p l e rm_X4_childAfter s m args below meth c D w0 6 (MQ below (QI D (t3 cI cZ cJ) w0 (wE cI cZ ad S rest) s.heap.size r) args s 0 0 (va_A w0 s.heap.size)) (wE cI cZ ad S rest) 0 0 6 [(0, .ref (ad 0)), (1, .int a'.1), (2, .int a'.2.1), (3, .ref (ad 24)), (4, .int a'.2.2.1), (5, .int a'.2.2.2)] []) (hr : ∀ r', z = .inr r' → r' = r) : XW p l e rm_X4_childAfter s m args below meth c D w0 6 (MQ below (QI D (t3 cI cZ cJ) w0 (wE cI cZ ad S rest) s.heap.size r) args s 0 0 (va_A w0 s.heap.size)) (wE cI cZ ad S rest) 0 0 64 [(0, .ref (ad 0)), (1, .int x1), (2, .int x2), (3, .ref (ad 24)), (5, .int x5)] [] := by
  unfold X4_childAfter_b64 at h
  refine x_iload C 4 dX4_childAfter_64 rfl ?_
  refine x_istore C (lv' := [(0, .ref (ad 0)), (1, .int x1), (2, .int x2), (3, .ref (ad 24)), (4, .int x5), (5, .int x5)]) dX4_childAfter_66 (by decide) rfl ?_
  exact X_X4_childAfter_b68 C h hk hr
def X4_childAfter_H6 (S : St) (x1 x2 x4 x5 : Int32) : Option ((Int32 × Int32 × Int32 × Int32) ⊕ (Int32)) :=
  if 42 ≤ x5 then (exI (X4_childAfter_b74 S x4)) else (if inB x5 42 then (if (S 3 x5.toNatClampNeg) = x1 then ((X3_isReferral S x5).bind fun v27 => if v27 = 0 then ((X4_orderUnderParent S x5).bind fun v36 => if v36 ≤ x2 then (X4_childAfter_b68 S x1 x2 x4 x5) else (if x4 = (-1) then (X4_childAfter_b64 S x1 x2 x5) else ((X4_orderUnderParent S x5).bind fun v52 => (X4_orderUnderParent S x4).bind fun v58 => if v58 ≤ v52 then (X4_childAfter_b68 S x1 x2 x4 x5) else (X4_childAfter_b64 S x1 x2 x5)))) else (X4_childAfter_b68 S x1 x2 x4 x5)) else (X4_childAfter_b68 S x1 x2 x4 x5)) else none)
set_option maxHeartbeats 4000000 in
set_option maxRecDepth 100000 in
theorem X_X4_childAfter_H6 {p : Program} {l : Launch} {e : Env} {s : State} {m : MethodId} {args : Array Value} {below : List Frame} {meth : Method} {c : Code} {D : va_G} {cI cZ cJ : ClassId} {ad : Nat → Nat} {rest w0 : va_W} (C : XC p rm_X4_childAfter s m args meth c cX4_childAfter 6 (some .int) RX4 wsX4_childAfter D (t3 cI cZ cJ)) {S : St} {x1 x2 x4 x5 : Int32} {z : (Int32 × Int32 × Int32 × Int32) ⊕ (Int32)} {r : Int32} (h : X4_childAfter_H6 S x1 x2 x4 x5 = some z) (hk : ∀ a' : (Int32 × Int32 × Int32 × Int32), z = .inl a' → XW p l e rm_X4_childAfter s m args below meth c D w0 6 (MQ below (QI D (t3 cI cZ cJ) w0 (wE cI cZ ad S rest) s.heap.size r) args s 0 0 (va_A w0 s.heap.size)) (wE cI cZ ad S rest) 0 0 6 [(0, .ref (ad 0)), (1, .int a'.1), (2, .int a'.2.1), (3, .ref (ad 24)), (4, .int a'.2.2.1), (5, .int a'.2.2.2)] []) (hr : ∀ r', z = .inr r' → r' = r) : XW p l e rm_X4_childAfter s m args below meth c D w0 6 (MQ below (QI D (t3 cI cZ cJ) w0 (wE cI cZ ad S rest) s.heap.size r) args s 0 0 (va_A w0 s.heap.size)) (wE cI cZ ad S rest) 0 0 6 [(0, .ref (ad 0)), (1, .int x1), (2, .int x2), (3, .ref (ad 24)), (4, .int x4), (5, .int x5)] [] := by
  unfold X4_childAfter_H6 at h
  refine x_iload C 5 dX4_childAfter_6 rfl ?_
  refine x_bipush C (v := 42) dX4_childAfter_8 (by decide) ?_
  refine x_icmp_ge C (t := 74) dX4_childAfter_10 (by decide) (fun c10 => ?_) (fun c10 => ?_)
  · replace h := (if_pos c10).symm.trans h
    refine x_locals (lv' := [(4, .int x4)]) [4] rfl ?_
    obtain ⟨r1, h1, h2⟩ := exI_some h
    obtain rfl := hr r1 h2
    exact X_X4_childAfter_b74 C h1
  · replace h := (if_neg c10).symm.trans h
    refine x_aload_n C 0 dX4_childAfter_13 rfl ?_
    refine x_get C (R' := RX4) (T := TX4) (N := 11) (ci := 4) 0 6 rfl rfl (by decide) rfl rfl hi_X4_childAfter_4 lk_X4_childAfter_19 dX4_childAfter_14 ?_
    refine x_iload C 5 dX4_childAfter_17 rfl ?_
    obtain ⟨g19, h⟩ := gdB h
    refine x_iald C 3 rfl g19 dX4_childAfter_19 ?_
    refine x_iload_n C 1 dX4_childAfter_20 rfl ?_
    refine x_icmp_ne C (t := 68) dX4_childAfter_21 (by decide) (fun c21 => ?_) (fun c21 => ?_)
    · replace h := (if_neg c21).symm.trans h
      exact X_X4_childAfter_b68 C h hk hr
    · replace h := (if_pos c21).symm.trans h
      refine x_aload_n C 3 dX4_childAfter_24 rfl ?_
      refine x_iload C 5 dX4_childAfter_25 rfl ?_
      obtain ⟨v27, hg27, h⟩ := ob h
      refine x_ci0 (x_runV C (As := [.int x5]) (rest := []) (c_X3_isReferral hg27) (cw_X4_childAfter_X3_isReferral_158 C) 24 rfl rfl rfl (Nat.le_of_ble_eq_true rfl) dX4_childAfter_27 ⟨Nat.zero_le _, Nat.zero_le _⟩) ?_
      refine x_if_ne C (t := 68) dX4_childAfter_30 (by decide) (fun c30 => ?_) (fun c30 => ?_)
      · replace h := (if_neg c30).symm.trans h
        exact X_X4_childAfter_b68 C h hk hr
      · replace h := (if_pos c30).symm.trans h
        refine x_aload_n C 0 dX4_childAfter_33 rfl ?_
        refine x_iload C 5 dX4_childAfter_34 rfl ?_
        obtain ⟨v36, hg36, h⟩ := ob h
        refine x_ci0 (x_runV C (As := [.int x5]) (rest := []) (c_X4_orderUnderParent hg36) (cw_X4_childAfter_X4_orderUnderParent_163 C) 0 rfl rfl rfl (Nat.le_of_ble_eq_true rfl) dX4_childAfter_36 ⟨Nat.zero_le _, Nat.zero_le _⟩) ?_
        refine x_iload_n C 2 dX4_childAfter_39 rfl ?_
        refine x_icmp_le C (t := 68) dX4_childAfter_40 (by decide) (fun c40 => ?_) (fun c40 => ?_)
        · replace h := (if_pos c40).symm.trans h
          exact X_X4_childAfter_b68 C h hk hr
        · replace h := (if_neg c40).symm.trans h
          refine x_iload C 4 dX4_childAfter_43 rfl ?_
          refine x_iconst C (v := (-1)) dX4_childAfter_45 (by decide) ?_
          refine x_icmp_eq C (t := 64) dX4_childAfter_46 (by decide) (fun c46 => ?_) (fun c46 => ?_)
          · replace h := (if_pos c46).symm.trans h
            refine x_locals (lv' := [(0, .ref (ad 0)), (1, .int x1), (2, .int x2), (3, .ref (ad 24)), (5, .int x5)]) [0, 1, 2, 3, 5] rfl ?_
            exact X_X4_childAfter_b64 C h hk hr
          · replace h := (if_neg c46).symm.trans h
            refine x_aload_n C 0 dX4_childAfter_49 rfl ?_
            refine x_iload C 5 dX4_childAfter_50 rfl ?_
            obtain ⟨v52, hg52, h⟩ := ob h
            refine x_ci0 (x_runV C (As := [.int x5]) (rest := []) (c_X4_orderUnderParent hg52) (cw_X4_childAfter_X4_orderUnderParent_163 C) 0 rfl rfl rfl (Nat.le_of_ble_eq_true rfl) dX4_childAfter_52 ⟨Nat.zero_le _, Nat.zero_le _⟩) ?_
            refine x_aload_n C 0 dX4_childAfter_55 rfl ?_
            refine x_iload C 4 dX4_childAfter_56 rfl ?_
            obtain ⟨v58, hg58, h⟩ := ob h
            refine x_ci0 (x_runV C (As := [.int x4]) (rest := [.int v52]) (c_X4_orderUnderParent hg58) (cw_X4_childAfter_X4_orderUnderParent_163 C) 0 rfl rfl rfl (Nat.le_of_ble_eq_true rfl) dX4_childAfter_58 ⟨Nat.zero_le _, Nat.zero_le _⟩) ?_
            refine x_icmp_ge C (t := 68) dX4_childAfter_61 (by decide) (fun c61 => ?_) (fun c61 => ?_)
            · replace h := (if_pos c61).symm.trans h
              exact X_X4_childAfter_b68 C h hk hr
            · replace h := (if_neg c61).symm.trans h
              refine x_locals (lv' := [(0, .ref (ad 0)), (1, .int x1), (2, .int x2), (3, .ref (ad 24)), (5, .int x5)]) [0, 1, 2, 3, 5] rfl ?_
              exact X_X4_childAfter_b64 C h hk hr
def X4_childAfter_L6 (S : St) (x1 x2 x4 x5 : Int32) : Option (Int32) := wloop (fun a' : (Int32 × Int32 × Int32 × Int32) => X4_childAfter_H6 S a'.1 a'.2.1 a'.2.2.1 a'.2.2.2) 1000 (x1, x2, x4, x5)
set_option maxHeartbeats 4000000 in
set_option maxRecDepth 100000 in
theorem X_X4_childAfter_L6 {p : Program} {l : Launch} {e : Env} {s : State} {m : MethodId} {args : Array Value} {below : List Frame} {meth : Method} {c : Code} {D : va_G} {cI cZ cJ : ClassId} {ad : Nat → Nat} {rest w0 : va_W} (C : XC p rm_X4_childAfter s m args meth c cX4_childAfter 6 (some .int) RX4 wsX4_childAfter D (t3 cI cZ cJ)) {S : St} {x1 x2 x4 x5 : Int32} {r : Int32} (h : X4_childAfter_L6 S x1 x2 x4 x5 = some r) : XW p l e rm_X4_childAfter s m args below meth c D w0 6 (MQ below (QI D (t3 cI cZ cJ) w0 (wE cI cZ ad S rest) s.heap.size r) args s 0 0 (va_A w0 s.heap.size)) (wE cI cZ ad S rest) 0 0 6 [(0, .ref (ad 0)), (1, .int x1), (2, .int x2), (3, .ref (ad 24)), (4, .int x4), (5, .int x5)] [] :=
  wloop_met (P := (fun a' : (Int32 × Int32 × Int32 × Int32) => XW p l e rm_X4_childAfter s m args below meth c D w0 6 (MQ below (QI D (t3 cI cZ cJ) w0 (wE cI cZ ad S rest) s.heap.size r) args s 0 0 (va_A w0 s.heap.size)) (wE cI cZ ad S rest) 0 0 6 [(0, .ref (ad 0)), (1, .int a'.1), (2, .int a'.2.1), (3, .ref (ad 24)), (4, .int a'.2.2.1), (5, .int a'.2.2.2)] [])) (fun _ _ hz hk hr => X_X4_childAfter_H6 C hz hk hr) 1000 (x1, x2, x4, x5) h
def X4_childAfter (S : St) (x1 x2 : Int32) : Option (Int32) :=
  X4_childAfter_L6 S x1 x2 (-1) 0
set_option maxHeartbeats 4000000 in
set_option maxRecDepth 100000 in
theorem X_X4_childAfter {p : Program} {l : Launch} {e : Env} {s : State} {m : MethodId} {args : Array Value} {below : List Frame} {meth : Method} {c : Code} {D : va_G} {cI cZ cJ : ClassId} {ad : Nat → Nat} {rest w0 : va_W} (C : XC p rm_X4_childAfter s m args meth c cX4_childAfter 6 (some .int) RX4 wsX4_childAfter D (t3 cI cZ cJ)) {S : St} {x1 x2 : Int32} {r : Int32} (h : X4_childAfter S x1 x2 = some r) : XW p l e rm_X4_childAfter s m args below meth c D w0 6 (MQ below (QI D (t3 cI cZ cJ) w0 (wE cI cZ ad S rest) s.heap.size r) args s 0 0 (va_A w0 s.heap.size)) (wE cI cZ ad S rest) 0 0 0 [(0, .ref (ad 0)), (1, .int x1), (2, .int x2), (3, .ref (ad 24))] [] := by
  unfold X4_childAfter at h
  refine x_iconst C (v := (-1)) dX4_childAfter_0 (by decide) ?_
  refine x_istore C (lv' := [(0, .ref (ad 0)), (1, .int x1), (2, .int x2), (3, .ref (ad 24)), (4, .int (-1))]) dX4_childAfter_1 (by decide) rfl ?_
  refine x_iconst C (v := 0) dX4_childAfter_3 (by decide) ?_
  refine x_istore C (lv' := [(0, .ref (ad 0)), (1, .int x1), (2, .int x2), (3, .ref (ad 24)), (4, .int (-1)), (5, .int 0)]) dX4_childAfter_4 (by decide) rfl ?_
  exact X_X4_childAfter_L6 C h
set_option maxRecDepth 100000 in
theorem c_X4_childAfter {l : Launch} {D : va_G} {cI cZ cJ : ClassId} {ad : Nat → Nat} {S : St} {rest : va_W} {x1 x2 : Int32} {r : Int32} (h : X4_childAfter S x1 x2 = some r) : ∀ sz, Met l yX4_childAfter wsX4_childAfter rm_X4_childAfter (PC D (t3 cI cZ cJ) [.ref (ad 0), .int x1, .int x2, .ref (ad 24)] (wE cI cZ ad S rest) sz) (QI D (t3 cI cZ cJ) (wE cI cZ ad S rest) (wE cI cZ ad S rest) sz r) 0 0 (va_A (wE cI cZ ad S rest) sz) := by
  refine x_met (Qc := fun sz => QI D (t3 cI cZ cJ) (wE cI cZ ad S rest) (wE cI cZ ad S rest) sz r) RX4 rfl (by decide) rfl (Nat.le_of_ble_eq_true rfl) (fun p e s m args below meth c C => ?_)
  exact X_X4_childAfter C h
/-! EntryMasters$Tree.entryAfter(IILEntryMasters$Marks;)I -/
abbrev rm_X4_entryAfter : Room := { frames := 4, cells := 0, slots := 0, locals := 89 }
theorem cw_X4_entryAfter_X4_childAfter_166 {p : Program} {s : State} {m : MethodId} {args : Array Value} {meth : Method} {c : Code} {D : va_G} {tys : List (ClassId × FieldType)} {R : Room} (C : XC p R s m args meth c cX4_entryAfter 8 (some .int) RX4 wsX4_entryAfter D tys) : CallW rm_X4_entryAfter s args RX4 RX4 166 yX4_childAfter cX4_childAfter 6 (some .int) wsX4_childAfter rm_X4_childAfter 0 0 3 := cwV 3 C.2.2.2.2.1 gX4_entryAfter_X4_childAfter rfl rfl rfl (by decide +kernel) ⟨Nat.le_of_ble_eq_true rfl, Nat.le_of_ble_eq_true rfl⟩
theorem cw_X4_entryAfter_X4_orderUnderParent_163 {p : Program} {s : State} {m : MethodId} {args : Array Value} {meth : Method} {c : Code} {D : va_G} {tys : List (ClassId × FieldType)} {R : Room} (C : XC p R s m args meth c cX4_entryAfter 8 (some .int) RX4 wsX4_entryAfter D tys) : CallW rm_X4_entryAfter s args RX4 RX4 163 yX4_orderUnderParent cX4_orderUnderParent 3 (some .int) wsX4_orderUnderParent rm_X4_orderUnderParent 0 0 1 := cwV 1 C.2.2.2.2.1 gX4_entryAfter_X4_orderUnderParent rfl rfl rfl (by decide +kernel) ⟨Nat.le_of_ble_eq_true rfl, Nat.le_of_ble_eq_true rfl⟩
theorem cw_X4_entryAfter_X4_parentAt_145 {p : Program} {s : State} {m : MethodId} {args : Array Value} {meth : Method} {c : Code} {D : va_G} {tys : List (ClassId × FieldType)} {R : Room} (C : XC p R s m args meth c cX4_entryAfter 8 (some .int) RX4 wsX4_entryAfter D tys) : CallW rm_X4_entryAfter s args RX4 RX4 145 yX4_parentAt cX4_parentAt 2 (some .int) wsX4_parentAt rm_X4_parentAt 0 0 1 := cwV 1 C.2.2.2.2.1 gX4_entryAfter_X4_parentAt rfl rfl rfl (by decide +kernel) ⟨Nat.le_of_ble_eq_true rfl, Nat.le_of_ble_eq_true rfl⟩
def X4_entryAfter_b85 (S : St) : Option (Int32) :=
  some (-1)
set_option maxHeartbeats 4000000 in
set_option maxRecDepth 100000 in
theorem X_X4_entryAfter_b85 {p : Program} {l : Launch} {e : Env} {s : State} {m : MethodId} {args : Array Value} {below : List Frame} {meth : Method} {c : Code} {D : va_G} {cI cZ cJ : ClassId} {ad : Nat → Nat} {rest w0 : va_W} (C : XC p rm_X4_entryAfter s m args meth c cX4_entryAfter 8 (some .int) RX4 wsX4_entryAfter D (t3 cI cZ cJ)) {S : St} {r : Int32} (h : X4_entryAfter_b85 S = some r) : XW p l e rm_X4_entryAfter s m args below meth c D w0 8 (MQ below (QI D (t3 cI cZ cJ) w0 (wE cI cZ ad S rest) s.heap.size r) args s 0 0 (va_A w0 s.heap.size)) (wE cI cZ ad S rest) 0 0 85 [] [] := by
  unfold X4_entryAfter_b85 at h
  refine x_iconst C (v := (-1)) dX4_entryAfter_85 (by decide) ?_
  obtain rfl := Option.some.inj h
  exact x_iret C dX4_entryAfter_86
def X4_entryAfter_b68 (S : St) (x7 : Int32) : Option (Int32) :=
  some x7
set_option maxHeartbeats 4000000 in
set_option maxRecDepth 100000 in
theorem X_X4_entryAfter_b68 {p : Program} {l : Launch} {e : Env} {s : State} {m : MethodId} {args : Array Value} {below : List Frame} {meth : Method} {c : Code} {D : va_G} {cI cZ cJ : ClassId} {ad : Nat → Nat} {rest w0 : va_W} (C : XC p rm_X4_entryAfter s m args meth c cX4_entryAfter 8 (some .int) RX4 wsX4_entryAfter D (t3 cI cZ cJ)) {S : St} {x7 : Int32} {r : Int32} (h : X4_entryAfter_b68 S x7 = some r) : XW p l e rm_X4_entryAfter s m args below meth c D w0 8 (MQ below (QI D (t3 cI cZ cJ) w0 (wE cI cZ ad S rest) s.heap.size r) args s 0 0 (va_A w0 s.heap.size)) (wE cI cZ ad S rest) 0 0 68 [(7, .int x7)] [] := by
  unfold X4_entryAfter_b68 at h
  refine x_iload C 0 dX4_entryAfter_68 rfl ?_
  obtain rfl := Option.some.inj h
  exact x_iret C dX4_entryAfter_70
def X4_entryAfter_H24 (S : St) (x2 x5 x6 : Int32) : Option ((Int32 × Int32 × Int32) ⊕ (Int32)) :=
  if 42 ≤ x6 then (exI (X4_entryAfter_b85 S)) else (if x5 = x2 then (exI (X4_entryAfter_b85 S)) else (if x5 = (-1) then (exI (X4_entryAfter_b85 S)) else ((X4_parentAt S x5).bind fun v47 => (X4_orderUnderParent S x5).bind fun v53 => (X4_childAfter S v47 v53).bind fun v57 => if v57 = (-1) then ((X4_parentAt S x5).bind fun v74 => some (.inl (x2, v74, x6 + 1))) else (exI (X4_entryAfter_b68 S v57)))))
set_option maxHeartbeats 4000000 in
set_option maxRecDepth 100000 in
theorem X_X4_entryAfter_H24 {p : Program} {l : Launch} {e : Env} {s : State} {m : MethodId} {args : Array Value} {below : List Frame} {meth : Method} {c : Code} {D : va_G} {cI cZ cJ : ClassId} {ad : Nat → Nat} {rest w0 : va_W} (C : XC p rm_X4_entryAfter s m args meth c cX4_entryAfter 8 (some .int) RX4 wsX4_entryAfter D (t3 cI cZ cJ)) {S : St} {x2 x5 x6 : Int32} {z : (Int32 × Int32 × Int32) ⊕ (Int32)} {r : Int32} (h : X4_entryAfter_H24 S x2 x5 x6 = some z) (hk : ∀ a' : (Int32 × Int32 × Int32), z = .inl a' → XW p l e rm_X4_entryAfter s m args below meth c D w0 8 (MQ below (QI D (t3 cI cZ cJ) w0 (wE cI cZ ad S rest) s.heap.size r) args s 0 0 (va_A w0 s.heap.size)) (wE cI cZ ad S rest) 0 0 24 [(0, .ref (ad 0)), (2, .int a'.1), (3, .ref (ad 24)), (5, .int a'.2.1), (6, .int a'.2.2)] []) (hr : ∀ r', z = .inr r' → r' = r) : XW p l e rm_X4_entryAfter s m args below meth c D w0 8 (MQ below (QI D (t3 cI cZ cJ) w0 (wE cI cZ ad S rest) s.heap.size r) args s 0 0 (va_A w0 s.heap.size)) (wE cI cZ ad S rest) 0 0 24 [(0, .ref (ad 0)), (2, .int x2), (3, .ref (ad 24)), (5, .int x5), (6, .int x6)] [] := by
  unfold X4_entryAfter_H24 at h
  refine x_iload C 4 dX4_entryAfter_24 rfl ?_
  refine x_bipush C (v := 42) dX4_entryAfter_26 (by decide) ?_
  refine x_icmp_ge C (t := 85) dX4_entryAfter_28 (by decide) (fun c28 => ?_) (fun c28 => ?_)
  · replace h := (if_pos c28).symm.trans h
    refine x_locals (lv' := []) [] rfl ?_
    obtain ⟨r1, h1, h2⟩ := exI_some h
    obtain rfl := hr r1 h2
    exact X_X4_entryAfter_b85 C h1
  · replace h := (if_neg c28).symm.trans h
    refine x_iload C 3 dX4_entryAfter_31 rfl ?_
    refine x_iload_n C 1 dX4_entryAfter_33 rfl ?_
    refine x_icmp_eq C (t := 85) dX4_entryAfter_34 (by decide) (fun c34 => ?_) (fun c34 => ?_)
    · replace h := (if_pos c34).symm.trans h
      refine x_locals (lv' := []) [] rfl ?_
      obtain ⟨r1, h1, h2⟩ := exI_some h
      obtain rfl := hr r1 h2
      exact X_X4_entryAfter_b85 C h1
    · replace h := (if_neg c34).symm.trans h
      refine x_iload C 3 dX4_entryAfter_37 rfl ?_
      refine x_iconst C (v := (-1)) dX4_entryAfter_39 (by decide) ?_
      refine x_icmp_eq C (t := 85) dX4_entryAfter_40 (by decide) (fun c40 => ?_) (fun c40 => ?_)
      · replace h := (if_pos c40).symm.trans h
        refine x_locals (lv' := []) [] rfl ?_
        obtain ⟨r1, h1, h2⟩ := exI_some h
        obtain rfl := hr r1 h2
        exact X_X4_entryAfter_b85 C h1
      · replace h := (if_neg c40).symm.trans h
        refine x_aload_n C 0 dX4_entryAfter_43 rfl ?_
        refine x_aload_n C 0 dX4_entryAfter_44 rfl ?_
        refine x_iload C 3 dX4_entryAfter_45 rfl ?_
        obtain ⟨v47, hg47, h⟩ := ob h
        refine x_ci0 (x_runV C (As := [.int x5]) (rest := [.ref (ad 0)]) (c_X4_parentAt hg47) (cw_X4_entryAfter_X4_parentAt_145 C) 0 rfl rfl rfl (Nat.le_of_ble_eq_true rfl) dX4_entryAfter_47 ⟨Nat.zero_le _, Nat.zero_le _⟩) ?_
        refine x_aload_n C 0 dX4_entryAfter_50 rfl ?_
        refine x_iload C 3 dX4_entryAfter_51 rfl ?_
        obtain ⟨v53, hg53, h⟩ := ob h
        refine x_ci0 (x_runV C (As := [.int x5]) (rest := [.int v47, .ref (ad 0)]) (c_X4_orderUnderParent hg53) (cw_X4_entryAfter_X4_orderUnderParent_163 C) 0 rfl rfl rfl (Nat.le_of_ble_eq_true rfl) dX4_entryAfter_53 ⟨Nat.zero_le _, Nat.zero_le _⟩) ?_
        refine x_aload_n C 2 dX4_entryAfter_56 rfl ?_
        obtain ⟨v57, hg57, h⟩ := ob h
        refine x_ci0 (x_runV C (As := [.int v47, .int v53, .ref (ad 24)]) (rest := []) (c_X4_childAfter hg57) (cw_X4_entryAfter_X4_childAfter_166 C) 0 rfl rfl rfl (Nat.le_of_ble_eq_true rfl) dX4_entryAfter_57 ⟨Nat.zero_le _, Nat.zero_le _⟩) ?_
        refine x_istore C (lv' := [(0, .ref (ad 0)), (2, .int x2), (3, .ref (ad 24)), (5, .int x5), (6, .int x6), (7, .int v57)]) dX4_entryAfter_60 (by decide) rfl ?_
        refine x_iload C 5 dX4_entryAfter_62 rfl ?_
        refine x_iconst C (v := (-1)) dX4_entryAfter_64 (by decide) ?_
        refine x_icmp_eq C (t := 71) dX4_entryAfter_65 (by decide) (fun c65 => ?_) (fun c65 => ?_)
        · replace h := (if_pos c65).symm.trans h
          refine x_aload_n C 0 dX4_entryAfter_71 rfl ?_
          refine x_iload C 3 dX4_entryAfter_72 rfl ?_
          obtain ⟨v74, hg74, h⟩ := ob h
          refine x_ci0 (x_runV C (As := [.int x5]) (rest := []) (c_X4_parentAt hg74) (cw_X4_entryAfter_X4_parentAt_145 C) 0 rfl rfl rfl (Nat.le_of_ble_eq_true rfl) dX4_entryAfter_74 ⟨Nat.zero_le _, Nat.zero_le _⟩) ?_
          refine x_istore C (lv' := [(0, .ref (ad 0)), (2, .int x2), (3, .ref (ad 24)), (5, .int v74), (6, .int x6), (7, .int v57)]) dX4_entryAfter_77 (by decide) rfl ?_
          refine x_iinc C (v := x6 + 1) (lv' := [(0, .ref (ad 0)), (2, .int x2), (3, .ref (ad 24)), (5, .int v74), (6, .int (x6 + 1)), (7, .int v57)]) 4 dX4_entryAfter_79 rfl rfl (by decide) rfl ?_
          refine x_goto C (t := 24) dX4_entryAfter_82 (by decide) ?_
          refine x_locals (lv' := [(0, .ref (ad 0)), (2, .int x2), (3, .ref (ad 24)), (5, .int v74), (6, .int (x6 + 1))]) [0, 1, 2, 3, 4] rfl ?_
          exact hk _ (Option.some.inj h).symm
        · replace h := (if_neg c65).symm.trans h
          refine x_locals (lv' := [(7, .int v57)]) [5] rfl ?_
          obtain ⟨r1, h1, h2⟩ := exI_some h
          obtain rfl := hr r1 h2
          exact X_X4_entryAfter_b68 C h1
def X4_entryAfter_L24 (S : St) (x2 x5 x6 : Int32) : Option (Int32) := wloop (fun a' : (Int32 × Int32 × Int32) => X4_entryAfter_H24 S a'.1 a'.2.1 a'.2.2) 1000 (x2, x5, x6)
set_option maxHeartbeats 4000000 in
set_option maxRecDepth 100000 in
theorem X_X4_entryAfter_L24 {p : Program} {l : Launch} {e : Env} {s : State} {m : MethodId} {args : Array Value} {below : List Frame} {meth : Method} {c : Code} {D : va_G} {cI cZ cJ : ClassId} {ad : Nat → Nat} {rest w0 : va_W} (C : XC p rm_X4_entryAfter s m args meth c cX4_entryAfter 8 (some .int) RX4 wsX4_entryAfter D (t3 cI cZ cJ)) {S : St} {x2 x5 x6 : Int32} {r : Int32} (h : X4_entryAfter_L24 S x2 x5 x6 = some r) : XW p l e rm_X4_entryAfter s m args below meth c D w0 8 (MQ below (QI D (t3 cI cZ cJ) w0 (wE cI cZ ad S rest) s.heap.size r) args s 0 0 (va_A w0 s.heap.size)) (wE cI cZ ad S rest) 0 0 24 [(0, .ref (ad 0)), (2, .int x2), (3, .ref (ad 24)), (5, .int x5), (6, .int x6)] [] :=
  wloop_met (P := (fun a' : (Int32 × Int32 × Int32) => XW p l e rm_X4_entryAfter s m args below meth c D w0 8 (MQ below (QI D (t3 cI cZ cJ) w0 (wE cI cZ ad S rest) s.heap.size r) args s 0 0 (va_A w0 s.heap.size)) (wE cI cZ ad S rest) 0 0 24 [(0, .ref (ad 0)), (2, .int a'.1), (3, .ref (ad 24)), (5, .int a'.2.1), (6, .int a'.2.2)] [])) (fun _ _ hz hk hr => X_X4_entryAfter_H24 C hz hk hr) 1000 (x2, x5, x6) h
def X4_entryAfter (S : St) (x1 x2 : Int32) : Option (Int32) :=
  (X4_childAfter S x1 (-1)).bind fun v4 => if v4 = (-1) then (X4_entryAfter_L24 S x2 x1 0) else (some v4)
set_option maxHeartbeats 4000000 in
set_option maxRecDepth 100000 in
theorem X_X4_entryAfter {p : Program} {l : Launch} {e : Env} {s : State} {m : MethodId} {args : Array Value} {below : List Frame} {meth : Method} {c : Code} {D : va_G} {cI cZ cJ : ClassId} {ad : Nat → Nat} {rest w0 : va_W} (C : XC p rm_X4_entryAfter s m args meth c cX4_entryAfter 8 (some .int) RX4 wsX4_entryAfter D (t3 cI cZ cJ)) {S : St} {x1 x2 : Int32} {r : Int32} (h : X4_entryAfter S x1 x2 = some r) : XW p l e rm_X4_entryAfter s m args below meth c D w0 8 (MQ below (QI D (t3 cI cZ cJ) w0 (wE cI cZ ad S rest) s.heap.size r) args s 0 0 (va_A w0 s.heap.size)) (wE cI cZ ad S rest) 0 0 0 [(0, .ref (ad 0)), (1, .int x1), (2, .int x2), (3, .ref (ad 24))] [] := by
  unfold X4_entryAfter at h
  refine x_aload_n C 0 dX4_entryAfter_0 rfl ?_
  refine x_iload_n C 1 dX4_entryAfter_1 rfl ?_
  refine x_iconst C (v := (-1)) dX4_entryAfter_2 (by decide) ?_
  refine x_aload_n C 3 dX4_entryAfter_3 rfl ?_
  obtain ⟨v4, hg4, h⟩ := ob h
  refine x_ci0 (x_runV C (As := [.int x1, .int (-1), .ref (ad 24)]) (rest := []) (c_X4_childAfter hg4) (cw_X4_entryAfter_X4_childAfter_166 C) 0 rfl rfl rfl (Nat.le_of_ble_eq_true rfl) dX4_entryAfter_4 ⟨Nat.zero_le _, Nat.zero_le _⟩) ?_
  refine x_istore C (lv' := [(0, .ref (ad 0)), (1, .int x1), (2, .int x2), (3, .ref (ad 24)), (4, .int v4)]) dX4_entryAfter_7 (by decide) rfl ?_
  refine x_iload C 4 dX4_entryAfter_9 rfl ?_
  refine x_iconst C (v := (-1)) dX4_entryAfter_11 (by decide) ?_
  refine x_icmp_eq C (t := 18) dX4_entryAfter_12 (by decide) (fun c12 => ?_) (fun c12 => ?_)
  · replace h := (if_pos c12).symm.trans h
    refine x_iload_n C 1 dX4_entryAfter_18 rfl ?_
    refine x_istore C (lv' := [(0, .ref (ad 0)), (1, .int x1), (2, .int x2), (3, .ref (ad 24)), (4, .int v4), (5, .int x1)]) dX4_entryAfter_19 (by decide) rfl ?_
    refine x_iconst C (v := 0) dX4_entryAfter_21 (by decide) ?_
    refine x_istore C (lv' := [(0, .ref (ad 0)), (1, .int x1), (2, .int x2), (3, .ref (ad 24)), (4, .int v4), (5, .int x1), (6, .int 0)]) dX4_entryAfter_22 (by decide) rfl ?_
    refine x_locals (lv' := [(0, .ref (ad 0)), (2, .int x2), (3, .ref (ad 24)), (5, .int x1), (6, .int 0)]) [0, 2, 3, 5, 6] rfl ?_
    exact X_X4_entryAfter_L24 C h
  · replace h := (if_neg c12).symm.trans h
    refine x_iload C 4 dX4_entryAfter_15 rfl ?_
    obtain rfl := Option.some.inj h
    exact x_iret C dX4_entryAfter_17
set_option maxRecDepth 100000 in
theorem c_X4_entryAfter {l : Launch} {D : va_G} {cI cZ cJ : ClassId} {ad : Nat → Nat} {S : St} {rest : va_W} {x1 x2 : Int32} {r : Int32} (h : X4_entryAfter S x1 x2 = some r) : ∀ sz, Met l yX4_entryAfter wsX4_entryAfter rm_X4_entryAfter (PC D (t3 cI cZ cJ) [.ref (ad 0), .int x1, .int x2, .ref (ad 24)] (wE cI cZ ad S rest) sz) (QI D (t3 cI cZ cJ) (wE cI cZ ad S rest) (wE cI cZ ad S rest) sz r) 0 0 (va_A (wE cI cZ ad S rest) sz) := by
  refine x_met (Qc := fun sz => QI D (t3 cI cZ cJ) (wE cI cZ ad S rest) (wE cI cZ ad S rest) sz r) RX4 rfl (by decide) rfl (Nat.le_of_ble_eq_true rfl) (fun p e s m args below meth c C => ?_)
  exact X_X4_entryAfter C h
