/-! EntryMastersModel.thrown()I -/
abbrev rm_X6_thrown : Room := { frames := 0, cells := 0, slots := 0, locals := 0 }
theorem hi_X6_thrown_6 : ∀ z ∈ u_ws RX6 TX6 26, z ∈ wsX6_thrown := by decide +kernel
theorem lk_X6_thrown_80 : Cond.fieldLink RX6 80 RX6 "thrown" "I" ∈ wsX6_thrown := by decide +kernel
def X6_thrown (S : St) : Option (Int32) :=
  some (S 0 25)
set_option maxHeartbeats 4000000 in
set_option maxRecDepth 100000 in
theorem X_X6_thrown {p : Program} {l : Launch} {e : Env} {s : State} {m : MethodId} {args : Array Value} {below : List Frame} {meth : Method} {c : Code} {D : va_G} {cI cZ cJ : ClassId} {ad : Nat → Nat} {rest w0 : va_W} (C : XC p rm_X6_thrown s m args meth c cX6_thrown 1 (some .int) RX6 wsX6_thrown D (t3 cI cZ cJ)) {S : St} {r : Int32} (h : X6_thrown S = some r) : XW p l e rm_X6_thrown s m args below meth c D w0 1 (MQ below (QI D (t3 cI cZ cJ) w0 (wM cI cZ ad S rest) s.heap.size r) args s 0 0 (va_A w0 s.heap.size)) (wM cI cZ ad S rest) 0 0 0 [(0, .ref (ad 0))] [] := by
  unfold X6_thrown at h
  refine x_aload_n C 0 dX6_thrown_0 rfl ?_
  refine x_get C (R' := RX6) (T := TX6) (N := 26) (ci := 6) 0 25 rfl rfl (by decide) rfl rfl hi_X6_thrown_6 lk_X6_thrown_80 dX6_thrown_1 ?_
  obtain rfl := Option.some.inj h
  exact x_iret C dX6_thrown_4
set_option maxRecDepth 100000 in
theorem c_X6_thrown {l : Launch} {D : va_G} {cI cZ cJ : ClassId} {ad : Nat → Nat} {S : St} {rest : va_W} {r : Int32} (h : X6_thrown S = some r) : ∀ sz, Met l yX6_thrown wsX6_thrown rm_X6_thrown (PC D (t3 cI cZ cJ) [.ref (ad 0)] (wM cI cZ ad S rest) sz) (QI D (t3 cI cZ cJ) (wM cI cZ ad S rest) (wM cI cZ ad S rest) sz r) 0 0 (va_A (wM cI cZ ad S rest) sz) := by
  refine x_met (Qc := fun sz => QI D (t3 cI cZ cJ) (wM cI cZ ad S rest) (wM cI cZ ad S rest) sz r) RX6 rfl (by decide) rfl (Nat.le_of_ble_eq_true rfl) (fun p e s m args below meth c C => ?_)
  exact X_X6_thrown C h
/-! EntryMastersModel.isIn(III)Z -/
abbrev rm_X6_isIn : Room := { frames := 0, cells := 0, slots := 0, locals := 0 }
def X6_isIn_b15  (s0 : Int32) : Option (Int32) :=
  if s0 &&& 1 = s0 then (some s0) else none
set_option maxHeartbeats 4000000 in
set_option maxRecDepth 100000 in
theorem X_X6_isIn_b15 {p : Program} {l : Launch} {e : Env} {s : State} {m : MethodId} {args : Array Value} {below : List Frame} {meth : Method} {c : Code} {D : va_G} {cI cZ cJ : ClassId} {w w0 : va_W} (C : XC p rm_X6_isIn s m args meth c cX6_isIn 3 (some .boolean) RX6 wsX6_isIn D (t3 cI cZ cJ)) {s0 : Int32} {r : Int32} (h : X6_isIn_b15 s0 = some r) : XW p l e rm_X6_isIn s m args below meth c D w0 3 (MQ below (QI D (t3 cI cZ cJ) w0 w s.heap.size r) args s 0 0 (va_A w0 s.heap.size)) w 0 0 15 [] [.int s0] := by
  unfold X6_isIn_b15 at h
  obtain ⟨g15, h⟩ := gd h
  obtain rfl := Option.some.inj h
  exact x_zret C g15 dX6_isIn_15
def X6_isIn_b14  : Option (Int32) :=
  X6_isIn_b15 0
set_option maxHeartbeats 4000000 in
set_option maxRecDepth 100000 in
theorem X_X6_isIn_b14 {p : Program} {l : Launch} {e : Env} {s : State} {m : MethodId} {args : Array Value} {below : List Frame} {meth : Method} {c : Code} {D : va_G} {cI cZ cJ : ClassId} {w w0 : va_W} (C : XC p rm_X6_isIn s m args meth c cX6_isIn 3 (some .boolean) RX6 wsX6_isIn D (t3 cI cZ cJ)) {r : Int32} (h : X6_isIn_b14  = some r) : XW p l e rm_X6_isIn s m args below meth c D w0 3 (MQ below (QI D (t3 cI cZ cJ) w0 w s.heap.size r) args s 0 0 (va_A w0 s.heap.size)) w 0 0 14 [] [] := by
  unfold X6_isIn_b14 at h
  refine x_iconst C (v := 0) dX6_isIn_14 (by decide) ?_
  exact X_X6_isIn_b15 C h
def X6_isIn  (x0 x1 x2 : Int32) : Option (Int32) :=
  if x0 < x1 then (X6_isIn_b14) else (if x2 < x0 then (X6_isIn_b14) else (X6_isIn_b15 1))
set_option maxHeartbeats 4000000 in
set_option maxRecDepth 100000 in
theorem X_X6_isIn {p : Program} {l : Launch} {e : Env} {s : State} {m : MethodId} {args : Array Value} {below : List Frame} {meth : Method} {c : Code} {D : va_G} {cI cZ cJ : ClassId} {w w0 : va_W} (C : XC p rm_X6_isIn s m args meth c cX6_isIn 3 (some .boolean) RX6 wsX6_isIn D (t3 cI cZ cJ)) {x0 x1 x2 : Int32} {r : Int32} (h : X6_isIn x0 x1 x2 = some r) : XW p l e rm_X6_isIn s m args below meth c D w0 3 (MQ below (QI D (t3 cI cZ cJ) w0 w s.heap.size r) args s 0 0 (va_A w0 s.heap.size)) w 0 0 0 [(0, .int x0), (1, .int x1), (2, .int x2)] [] := by
  unfold X6_isIn at h
  refine x_iload_n C 0 dX6_isIn_0 rfl ?_
  refine x_iload_n C 1 dX6_isIn_1 rfl ?_
  refine x_icmp_lt C (t := 14) dX6_isIn_2 (by decide) (fun c2 => ?_) (fun c2 => ?_)
  · replace h := (if_pos c2).symm.trans h
    refine x_locals (lv' := []) [] rfl ?_
    exact X_X6_isIn_b14 C h
  · replace h := (if_neg c2).symm.trans h
    refine x_iload_n C 0 dX6_isIn_5 rfl ?_
    refine x_iload_n C 2 dX6_isIn_6 rfl ?_
    refine x_icmp_gt C (t := 14) dX6_isIn_7 (by decide) (fun c7 => ?_) (fun c7 => ?_)
    · replace h := (if_pos c7).symm.trans h
      refine x_locals (lv' := []) [] rfl ?_
      exact X_X6_isIn_b14 C h
    · replace h := (if_neg c7).symm.trans h
      refine x_iconst C (v := 1) dX6_isIn_10 (by decide) ?_
      refine x_goto C (t := 15) dX6_isIn_11 (by decide) ?_
      refine x_locals (lv' := []) [] rfl ?_
      exact X_X6_isIn_b15 C h
set_option maxRecDepth 100000 in
theorem c_X6_isIn {l : Launch} {D : va_G} {cI cZ cJ : ClassId} {w : va_W} {x0 x1 x2 : Int32} {r : Int32} (h : X6_isIn x0 x1 x2 = some r) : ∀ sz, Met l yX6_isIn wsX6_isIn rm_X6_isIn (PC D (t3 cI cZ cJ) [.int x0, .int x1, .int x2] w sz) (QI D (t3 cI cZ cJ) w w sz r) 0 0 (va_A w sz) := by
  refine x_met (Qc := fun sz => QI D (t3 cI cZ cJ) w w sz r) RX6 rfl (by decide) rfl (Nat.le_of_ble_eq_true rfl) (fun p e s m args below meth c C => ?_)
  exact X_X6_isIn C h
/-! EntryMastersModel.isMaster(I)Z -/
abbrev rm_X6_isMaster : Room := { frames := 1, cells := 0, slots := 0, locals := 22 }
theorem cw_X6_isMaster_X6_isIn_84 {p : Program} {s : State} {m : MethodId} {args : Array Value} {meth : Method} {c : Code} {D : va_G} {tys : List (ClassId × FieldType)} {R : Room} (C : XC p R s m args meth c cX6_isMaster 1 (some .boolean) RX6 wsX6_isMaster D tys) : CallB rm_X6_isMaster s args RX6 84 yX6_isIn cX6_isIn 3 (some .boolean) wsX6_isIn rm_X6_isIn 0 0 3 ∧ (Cond.static yX6_isIn).before args s = true := va_cwS 3 C.2.2.2.2.1 gX6_isMaster_X6_isIn rfl rfl rfl (by decide +kernel) ⟨Nat.le_of_ble_eq_true rfl, Nat.le_of_ble_eq_true rfl⟩
def X6_isMaster  (x0 : Int32) : Option (Int32) :=
  (X6_isIn x0 0 1).bind fun v3 => if v3 &&& 1 = v3 then (some v3) else none
set_option maxHeartbeats 4000000 in
set_option maxRecDepth 100000 in
theorem X_X6_isMaster {p : Program} {l : Launch} {e : Env} {s : State} {m : MethodId} {args : Array Value} {below : List Frame} {meth : Method} {c : Code} {D : va_G} {cI cZ cJ : ClassId} {w w0 : va_W} (C : XC p rm_X6_isMaster s m args meth c cX6_isMaster 1 (some .boolean) RX6 wsX6_isMaster D (t3 cI cZ cJ)) {x0 : Int32} {r : Int32} (h : X6_isMaster x0 = some r) : XW p l e rm_X6_isMaster s m args below meth c D w0 1 (MQ below (QI D (t3 cI cZ cJ) w0 w s.heap.size r) args s 0 0 (va_A w0 s.heap.size)) w 0 0 0 [(0, .int x0)] [] := by
  unfold X6_isMaster at h
  refine x_iload_n C 0 dX6_isMaster_0 rfl ?_
  refine x_iconst C (v := 0) dX6_isMaster_1 (by decide) ?_
  refine x_iconst C (v := 1) dX6_isMaster_2 (by decide) ?_
  obtain ⟨v3, hg3, h⟩ := ob h
  refine x_ci0 (x_runS C (As := [.int x0, .int 0, .int 1]) (rest := []) (c_X6_isIn hg3) (cw_X6_isMaster_X6_isIn_84 C) rfl (Nat.le_of_ble_eq_true rfl) dX6_isMaster_3 ⟨Nat.zero_le _, Nat.zero_le _⟩) ?_
  obtain ⟨g6, h⟩ := gd h
  obtain rfl := Option.some.inj h
  exact x_zret C g6 dX6_isMaster_6
set_option maxRecDepth 100000 in
theorem c_X6_isMaster {l : Launch} {D : va_G} {cI cZ cJ : ClassId} {w : va_W} {x0 : Int32} {r : Int32} (h : X6_isMaster x0 = some r) : ∀ sz, Met l yX6_isMaster wsX6_isMaster rm_X6_isMaster (PC D (t3 cI cZ cJ) [.int x0] w sz) (QI D (t3 cI cZ cJ) w w sz r) 0 0 (va_A w sz) := by
  refine x_met (Qc := fun sz => QI D (t3 cI cZ cJ) w w sz r) RX6 rfl (by decide) rfl (Nat.le_of_ble_eq_true rfl) (fun p e s m args below meth c C => ?_)
  exact X_X6_isMaster C h
/-! EntryMastersModel.setClass(III)V -/
abbrev rm_X6_setClass : Room := { frames := 1, cells := 0, slots := 0, locals := 22 }
theorem hi_X6_setClass_6 : ∀ z ∈ u_ws RX6 TX6 26, z ∈ wsX6_setClass := by decide +kernel
theorem lk_X6_setClass_7 : Cond.fieldLink RX6 7 RX6 "needs" "[I" ∈ wsX6_setClass := by decide +kernel
theorem lk_X6_setClass_13 : Cond.fieldLink RX6 13 RX6 "allows" "[I" ∈ wsX6_setClass := by decide +kernel
theorem lk_X6_setClass_80 : Cond.fieldLink RX6 80 RX6 "thrown" "I" ∈ wsX6_setClass := by decide +kernel
theorem lk_X6_setClass_88 : Cond.fieldLink RX6 88 RX6 "changes" "I" ∈ wsX6_setClass := by decide +kernel
theorem cw_X6_setClass_X6_isIn_84 {p : Program} {s : State} {m : MethodId} {args : Array Value} {meth : Method} {c : Code} {D : va_G} {tys : List (ClassId × FieldType)} {R : Room} (C : XC p R s m args meth c cX6_setClass 5 none RX6 wsX6_setClass D tys) : CallB rm_X6_setClass s args RX6 84 yX6_isIn cX6_isIn 3 (some .boolean) wsX6_isIn rm_X6_isIn 0 0 3 ∧ (Cond.static yX6_isIn).before args s = true := va_cwS 3 C.2.2.2.2.1 gX6_setClass_X6_isIn rfl rfl rfl (by decide +kernel) ⟨Nat.le_of_ble_eq_true rfl, Nat.le_of_ble_eq_true rfl⟩
def X6_setClass_b88 (S : St) : Option (St) :=
  some S
set_option maxHeartbeats 4000000 in
set_option maxRecDepth 100000 in
theorem X_X6_setClass_b88 {p : Program} {l : Launch} {e : Env} {s : State} {m : MethodId} {args : Array Value} {below : List Frame} {meth : Method} {c : Code} {D : va_G} {cI cZ cJ : ClassId} {ad : Nat → Nat} {rest w0 : va_W} (C : XC p rm_X6_setClass s m args meth c cX6_setClass 5 none RX6 wsX6_setClass D (t3 cI cZ cJ)) {S : St} {r : St} (h : X6_setClass_b88 S = some r) : XW p l e rm_X6_setClass s m args below meth c D w0 5 (MQ below (QV D (t3 cI cZ cJ) w0 (wM cI cZ ad r rest) s.heap.size) args s 0 0 (va_A w0 s.heap.size)) (wM cI cZ ad S rest) 0 0 88 [] [] := by
  unfold X6_setClass_b88 at h
  obtain rfl := Option.some.inj h
  exact x_vret C dX6_setClass_88
def X6_setClass_b79 (S : St) (x1 x2 x3 : Int32) : Option (St) :=
  if inB x1 3 then (X6_setClass_b88 (up S 2 (upd (S 2) x1.toNatClampNeg (x3 ||| x2)))) else none
set_option maxHeartbeats 4000000 in
set_option maxRecDepth 100000 in
theorem X_X6_setClass_b79 {p : Program} {l : Launch} {e : Env} {s : State} {m : MethodId} {args : Array Value} {below : List Frame} {meth : Method} {c : Code} {D : va_G} {cI cZ cJ : ClassId} {ad : Nat → Nat} {rest w0 : va_W} (C : XC p rm_X6_setClass s m args meth c cX6_setClass 5 none RX6 wsX6_setClass D (t3 cI cZ cJ)) {S : St} {x1 x2 x3 : Int32} {r : St} (h : X6_setClass_b79 S x1 x2 x3 = some r) : XW p l e rm_X6_setClass s m args below meth c D w0 5 (MQ below (QV D (t3 cI cZ cJ) w0 (wM cI cZ ad r rest) s.heap.size) args s 0 0 (va_A w0 s.heap.size)) (wM cI cZ ad S rest) 0 0 79 [(0, .ref (ad 0)), (1, .int x1), (2, .int x2), (3, .int x3)] [] := by
  unfold X6_setClass_b79 at h
  refine x_aload_n C 0 dX6_setClass_79 rfl ?_
  refine x_get C (R' := RX6) (T := TX6) (N := 26) (ci := 6) 0 1 rfl rfl (by decide) rfl rfl hi_X6_setClass_6 lk_X6_setClass_13 dX6_setClass_80 ?_
  refine x_iload_n C 1 dX6_setClass_83 rfl ?_
  refine x_iload_n C 3 dX6_setClass_84 rfl ?_
  refine x_iload_n C 2 dX6_setClass_85 rfl ?_
  refine x_ior C dX6_setClass_86 ?_
  obtain ⟨g87, h⟩ := gdB h
  refine x_iast C 2 rfl g87 dX6_setClass_87 (wM_s2 cI cZ ad S rest (upd (S 2) x1.toNatClampNeg (x3 ||| x2))) ?_
  refine x_locals (lv' := []) [] rfl ?_
  exact X_X6_setClass_b88 C h
def X6_setClass_b65 (S : St) (x1 x2 x3 : Int32) : Option (St) :=
  if (S 0 25) = 0 then (if inB x1 3 then (X6_setClass_b79 (up S 1 (upd (S 1) x1.toNatClampNeg x2)) x1 x2 x3) else none) else (X6_setClass_b88 S)
set_option maxHeartbeats 4000000 in
set_option maxRecDepth 100000 in
theorem X_X6_setClass_b65 {p : Program} {l : Launch} {e : Env} {s : State} {m : MethodId} {args : Array Value} {below : List Frame} {meth : Method} {c : Code} {D : va_G} {cI cZ cJ : ClassId} {ad : Nat → Nat} {rest w0 : va_W} (C : XC p rm_X6_setClass s m args meth c cX6_setClass 5 none RX6 wsX6_setClass D (t3 cI cZ cJ)) {S : St} {x1 x2 x3 : Int32} {r : St} (h : X6_setClass_b65 S x1 x2 x3 = some r) : XW p l e rm_X6_setClass s m args below meth c D w0 5 (MQ below (QV D (t3 cI cZ cJ) w0 (wM cI cZ ad r rest) s.heap.size) args s 0 0 (va_A w0 s.heap.size)) (wM cI cZ ad S rest) 0 0 65 [(0, .ref (ad 0)), (1, .int x1), (2, .int x2), (3, .int x3)] [] := by
  unfold X6_setClass_b65 at h
  refine x_aload_n C 0 dX6_setClass_65 rfl ?_
  refine x_get C (R' := RX6) (T := TX6) (N := 26) (ci := 6) 0 25 rfl rfl (by decide) rfl rfl hi_X6_setClass_6 lk_X6_setClass_80 dX6_setClass_66 ?_
  refine x_if_ne C (t := 88) dX6_setClass_69 (by decide) (fun c69 => ?_) (fun c69 => ?_)
  · replace h := (if_neg c69).symm.trans h
    refine x_locals (lv' := []) [] rfl ?_
    exact X_X6_setClass_b88 C h
  · replace h := (if_pos c69).symm.trans h
    refine x_aload_n C 0 dX6_setClass_72 rfl ?_
    refine x_get C (R' := RX6) (T := TX6) (N := 26) (ci := 6) 0 0 rfl rfl (by decide) rfl rfl hi_X6_setClass_6 lk_X6_setClass_7 dX6_setClass_73 ?_
    refine x_iload_n C 1 dX6_setClass_76 rfl ?_
    refine x_iload_n C 2 dX6_setClass_77 rfl ?_
    obtain ⟨g78, h⟩ := gdB h
    refine x_iast C 1 rfl g78 dX6_setClass_78 (wM_s1 cI cZ ad S rest (upd (S 1) x1.toNatClampNeg x2)) ?_
    exact X_X6_setClass_b79 C h
def X6_setClass_b62 (S : St) (x1 x2 x3 s0 : Int32) : Option (St) :=
  X6_setClass_b65 (up S 0 (upd (S 0) 25 s0)) x1 x2 x3
set_option maxHeartbeats 4000000 in
set_option maxRecDepth 100000 in
theorem X_X6_setClass_b62 {p : Program} {l : Launch} {e : Env} {s : State} {m : MethodId} {args : Array Value} {below : List Frame} {meth : Method} {c : Code} {D : va_G} {cI cZ cJ : ClassId} {ad : Nat → Nat} {rest w0 : va_W} (C : XC p rm_X6_setClass s m args meth c cX6_setClass 5 none RX6 wsX6_setClass D (t3 cI cZ cJ)) {S : St} {x1 x2 x3 s0 : Int32} {r : St} (h : X6_setClass_b62 S x1 x2 x3 s0 = some r) : XW p l e rm_X6_setClass s m args below meth c D w0 5 (MQ below (QV D (t3 cI cZ cJ) w0 (wM cI cZ ad r rest) s.heap.size) args s 0 0 (va_A w0 s.heap.size)) (wM cI cZ ad S rest) 0 0 62 [(0, .ref (ad 0)), (1, .int x1), (2, .int x2), (3, .int x3)] [.int s0, .ref (ad 0)] := by
  unfold X6_setClass_b62 at h
  refine x_put C (R' := RX6) (T := TX6) (N := 26) (ci := 6) tyX6 tyX6_ok nmX6 0 25 rfl rfl (by decide) rfl rfl (lt_ble rfl) rfl hi_X6_setClass_6 lk_X6_setClass_80 dX6_setClass_62 (wM_f0_25 cI cZ ad S rest s0) ?_
  exact X_X6_setClass_b65 C h
def X6_setClass_b25 (S : St) (x1 x2 x3 s0 : Int32) : Option (St) :=
  (X6_isIn x1 0 2).bind fun v31 => if v31 = 0 then (X6_setClass_b62 S x1 x2 x3 1) else (if s0 = 0 then (X6_setClass_b62 S x1 x2 x3 2) else (if (S 0 2) ≤ 0 then (X6_setClass_b62 S x1 x2 x3 0) else (X6_setClass_b62 S x1 x2 x3 3)))
set_option maxHeartbeats 4000000 in
set_option maxRecDepth 100000 in
theorem X_X6_setClass_b25 {p : Program} {l : Launch} {e : Env} {s : State} {m : MethodId} {args : Array Value} {below : List Frame} {meth : Method} {c : Code} {D : va_G} {cI cZ cJ : ClassId} {ad : Nat → Nat} {rest w0 : va_W} (C : XC p rm_X6_setClass s m args meth c cX6_setClass 5 none RX6 wsX6_setClass D (t3 cI cZ cJ)) {S : St} {x1 x2 x3 s0 : Int32} {r : St} (h : X6_setClass_b25 S x1 x2 x3 s0 = some r) : XW p l e rm_X6_setClass s m args below meth c D w0 5 (MQ below (QV D (t3 cI cZ cJ) w0 (wM cI cZ ad r rest) s.heap.size) args s 0 0 (va_A w0 s.heap.size)) (wM cI cZ ad S rest) 0 0 25 [(0, .ref (ad 0)), (1, .int x1), (2, .int x2), (3, .int x3)] [.int s0] := by
  unfold X6_setClass_b25 at h
  refine x_istore C (lv' := [(0, .ref (ad 0)), (1, .int x1), (2, .int x2), (3, .int x3), (4, .int s0)]) dX6_setClass_25 (by decide) rfl ?_
  refine x_aload_n C 0 dX6_setClass_27 rfl ?_
  refine x_iload_n C 1 dX6_setClass_28 rfl ?_
  refine x_iconst C (v := 0) dX6_setClass_29 (by decide) ?_
  refine x_iconst C (v := 2) dX6_setClass_30 (by decide) ?_
  obtain ⟨v31, hg31, h⟩ := ob h
  refine x_ci0 (x_runS C (As := [.int x1, .int 0, .int 2]) (rest := [.ref (ad 0)]) (c_X6_isIn hg31) (cw_X6_setClass_X6_isIn_84 C) rfl (Nat.le_of_ble_eq_true rfl) dX6_setClass_31 ⟨Nat.zero_le _, Nat.zero_le _⟩) ?_
  refine x_if_ne C (t := 41) dX6_setClass_34 (by decide) (fun c34 => ?_) (fun c34 => ?_)
  · replace h := (if_neg c34).symm.trans h
    refine x_iload C 4 dX6_setClass_41 rfl ?_
    refine x_if_ne C (t := 50) dX6_setClass_43 (by decide) (fun c43 => ?_) (fun c43 => ?_)
    · replace h := (if_neg c43).symm.trans h
      refine x_aload_n C 0 dX6_setClass_50 rfl ?_
      refine x_get C (R' := RX6) (T := TX6) (N := 26) (ci := 6) 0 2 rfl rfl (by decide) rfl rfl hi_X6_setClass_6 lk_X6_setClass_88 dX6_setClass_51 ?_
      refine x_if_le C (t := 61) dX6_setClass_54 (by decide) (fun c54 => ?_) (fun c54 => ?_)
      · replace h := (if_pos c54).symm.trans h
        refine x_iconst C (v := 0) dX6_setClass_61 (by decide) ?_
        refine x_locals (lv' := [(0, .ref (ad 0)), (1, .int x1), (2, .int x2), (3, .int x3)]) [0, 1, 2, 3] rfl ?_
        exact X_X6_setClass_b62 C h
      · replace h := (if_neg c54).symm.trans h
        refine x_iconst C (v := 3) dX6_setClass_57 (by decide) ?_
        refine x_goto C (t := 62) dX6_setClass_58 (by decide) ?_
        refine x_locals (lv' := [(0, .ref (ad 0)), (1, .int x1), (2, .int x2), (3, .int x3)]) [0, 1, 2, 3] rfl ?_
        exact X_X6_setClass_b62 C h
    · replace h := (if_pos c43).symm.trans h
      refine x_iconst C (v := 2) dX6_setClass_46 (by decide) ?_
      refine x_goto C (t := 62) dX6_setClass_47 (by decide) ?_
      refine x_locals (lv' := [(0, .ref (ad 0)), (1, .int x1), (2, .int x2), (3, .int x3)]) [0, 1, 2, 3] rfl ?_
      exact X_X6_setClass_b62 C h
  · replace h := (if_pos c34).symm.trans h
    refine x_iconst C (v := 1) dX6_setClass_37 (by decide) ?_
    refine x_goto C (t := 62) dX6_setClass_38 (by decide) ?_
    refine x_locals (lv' := [(0, .ref (ad 0)), (1, .int x1), (2, .int x2), (3, .int x3)]) [0, 1, 2, 3] rfl ?_
    exact X_X6_setClass_b62 C h
def X6_setClass_b24 (S : St) (x1 x2 x3 : Int32) : Option (St) :=
  X6_setClass_b25 S x1 x2 x3 0
set_option maxHeartbeats 4000000 in
set_option maxRecDepth 100000 in
theorem X_X6_setClass_b24 {p : Program} {l : Launch} {e : Env} {s : State} {m : MethodId} {args : Array Value} {below : List Frame} {meth : Method} {c : Code} {D : va_G} {cI cZ cJ : ClassId} {ad : Nat → Nat} {rest w0 : va_W} (C : XC p rm_X6_setClass s m args meth c cX6_setClass 5 none RX6 wsX6_setClass D (t3 cI cZ cJ)) {S : St} {x1 x2 x3 : Int32} {r : St} (h : X6_setClass_b24 S x1 x2 x3 = some r) : XW p l e rm_X6_setClass s m args below meth c D w0 5 (MQ below (QV D (t3 cI cZ cJ) w0 (wM cI cZ ad r rest) s.heap.size) args s 0 0 (va_A w0 s.heap.size)) (wM cI cZ ad S rest) 0 0 24 [(0, .ref (ad 0)), (1, .int x1), (2, .int x2), (3, .int x3)] [] := by
  unfold X6_setClass_b24 at h
  refine x_iconst C (v := 0) dX6_setClass_24 (by decide) ?_
  exact X_X6_setClass_b25 C h
def X6_setClass (S : St) (x1 x2 x3 : Int32) : Option (St) :=
  (X6_isIn x2 0 15).bind fun v4 => if v4 = 0 then (X6_setClass_b24 S x1 x2 x3) else ((X6_isIn x3 0 15).bind fun v14 => if v14 = 0 then (X6_setClass_b24 S x1 x2 x3) else (X6_setClass_b25 S x1 x2 x3 1))
set_option maxHeartbeats 4000000 in
set_option maxRecDepth 100000 in
theorem X_X6_setClass {p : Program} {l : Launch} {e : Env} {s : State} {m : MethodId} {args : Array Value} {below : List Frame} {meth : Method} {c : Code} {D : va_G} {cI cZ cJ : ClassId} {ad : Nat → Nat} {rest w0 : va_W} (C : XC p rm_X6_setClass s m args meth c cX6_setClass 5 none RX6 wsX6_setClass D (t3 cI cZ cJ)) {S : St} {x1 x2 x3 : Int32} {r : St} (h : X6_setClass S x1 x2 x3 = some r) : XW p l e rm_X6_setClass s m args below meth c D w0 5 (MQ below (QV D (t3 cI cZ cJ) w0 (wM cI cZ ad r rest) s.heap.size) args s 0 0 (va_A w0 s.heap.size)) (wM cI cZ ad S rest) 0 0 0 [(0, .ref (ad 0)), (1, .int x1), (2, .int x2), (3, .int x3)] [] := by
  unfold X6_setClass at h
  refine x_iload_n C 2 dX6_setClass_0 rfl ?_
  refine x_iconst C (v := 0) dX6_setClass_1 (by decide) ?_
  refine x_bipush C (v := 15) dX6_setClass_2 (by decide) ?_
  obtain ⟨v4, hg4, h⟩ := ob h
  refine x_ci0 (x_runS C (As := [.int x2, .int 0, .int 15]) (rest := []) (c_X6_isIn hg4) (cw_X6_setClass_X6_isIn_84 C) rfl (Nat.le_of_ble_eq_true rfl) dX6_setClass_4 ⟨Nat.zero_le _, Nat.zero_le _⟩) ?_
  refine x_if_eq C (t := 24) dX6_setClass_7 (by decide) (fun c7 => ?_) (fun c7 => ?_)
  · replace h := (if_pos c7).symm.trans h
    exact X_X6_setClass_b24 C h
  · replace h := (if_neg c7).symm.trans h
    refine x_iload_n C 3 dX6_setClass_10 rfl ?_
    refine x_iconst C (v := 0) dX6_setClass_11 (by decide) ?_
    refine x_bipush C (v := 15) dX6_setClass_12 (by decide) ?_
    obtain ⟨v14, hg14, h⟩ := ob h
    refine x_ci0 (x_runS C (As := [.int x3, .int 0, .int 15]) (rest := []) (c_X6_isIn hg14) (cw_X6_setClass_X6_isIn_84 C) rfl (Nat.le_of_ble_eq_true rfl) dX6_setClass_14 ⟨Nat.zero_le _, Nat.zero_le _⟩) ?_
    refine x_if_eq C (t := 24) dX6_setClass_17 (by decide) (fun c17 => ?_) (fun c17 => ?_)
    · replace h := (if_pos c17).symm.trans h
      exact X_X6_setClass_b24 C h
    · replace h := (if_neg c17).symm.trans h
      refine x_iconst C (v := 1) dX6_setClass_20 (by decide) ?_
      refine x_goto C (t := 25) dX6_setClass_21 (by decide) ?_
      exact X_X6_setClass_b25 C h
set_option maxRecDepth 100000 in
theorem c_X6_setClass {l : Launch} {D : va_G} {cI cZ cJ : ClassId} {ad : Nat → Nat} {S : St} {rest : va_W} {x1 x2 x3 : Int32} {r : St} (h : X6_setClass S x1 x2 x3 = some r) : ∀ sz, Met l yX6_setClass wsX6_setClass rm_X6_setClass (PC D (t3 cI cZ cJ) [.ref (ad 0), .int x1, .int x2, .int x3] (wM cI cZ ad S rest) sz) (QV D (t3 cI cZ cJ) (wM cI cZ ad S rest) (wM cI cZ ad r rest) sz) 0 0 (va_A (wM cI cZ ad S rest) sz) := by
  refine x_met (Qc := fun sz => QV D (t3 cI cZ cJ) (wM cI cZ ad S rest) (wM cI cZ ad r rest) sz) RX6 rfl (by decide) rfl (Nat.le_of_ble_eq_true rfl) (fun p e s m args below meth c C => ?_)
  exact X_X6_setClass C h
/-! EntryMastersModel.allowed(II)Z -/
abbrev rm_X6_allowed : Room := { frames := 0, cells := 0, slots := 0, locals := 0 }
theorem hi_X6_allowed_6 : ∀ z ∈ u_ws RX6 TX6 26, z ∈ wsX6_allowed := by decide +kernel
theorem lk_X6_allowed_13 : Cond.fieldLink RX6 13 RX6 "allows" "[I" ∈ wsX6_allowed := by decide +kernel
theorem lk_X6_allowed_71 : Cond.fieldLink RX6 71 RX6 "its" "[I" ∈ wsX6_allowed := by decide +kernel
def X6_allowed_b24 (S : St) (s0 : Int32) : Option (Int32) :=
  if s0 &&& 1 = s0 then (some s0) else none
set_option maxHeartbeats 4000000 in
set_option maxRecDepth 100000 in
theorem X_X6_allowed_b24 {p : Program} {l : Launch} {e : Env} {s : State} {m : MethodId} {args : Array Value} {below : List Frame} {meth : Method} {c : Code} {D : va_G} {cI cZ cJ : ClassId} {ad : Nat → Nat} {rest w0 : va_W} (C : XC p rm_X6_allowed s m args meth c cX6_allowed 3 (some .boolean) RX6 wsX6_allowed D (t3 cI cZ cJ)) {S : St} {s0 : Int32} {r : Int32} (h : X6_allowed_b24 S s0 = some r) : XW p l e rm_X6_allowed s m args below meth c D w0 3 (MQ below (QI D (t3 cI cZ cJ) w0 (wM cI cZ ad S rest) s.heap.size r) args s 0 0 (va_A w0 s.heap.size)) (wM cI cZ ad S rest) 0 0 24 [] [.int s0] := by
  unfold X6_allowed_b24 at h
  obtain ⟨g24, h⟩ := gd h
  obtain rfl := Option.some.inj h
  exact x_zret C g24 dX6_allowed_24
def X6_allowed (S : St) (x1 x2 : Int32) : Option (Int32) :=
  if inB x1 42 then (if inB (S 21 x1.toNatClampNeg) 3 then (if (((S 2 (S 21 x1.toNatClampNeg).toNatClampNeg) >>> (x2 &&& 31)) &&& 1) = 1 then (X6_allowed_b24 S 1) else (X6_allowed_b24 S 0)) else none) else none
set_option maxHeartbeats 4000000 in
set_option maxRecDepth 100000 in
theorem X_X6_allowed {p : Program} {l : Launch} {e : Env} {s : State} {m : MethodId} {args : Array Value} {below : List Frame} {meth : Method} {c : Code} {D : va_G} {cI cZ cJ : ClassId} {ad : Nat → Nat} {rest w0 : va_W} (C : XC p rm_X6_allowed s m args meth c cX6_allowed 3 (some .boolean) RX6 wsX6_allowed D (t3 cI cZ cJ)) {S : St} {x1 x2 : Int32} {r : Int32} (h : X6_allowed S x1 x2 = some r) : XW p l e rm_X6_allowed s m args below meth c D w0 3 (MQ below (QI D (t3 cI cZ cJ) w0 (wM cI cZ ad S rest) s.heap.size r) args s 0 0 (va_A w0 s.heap.size)) (wM cI cZ ad S rest) 0 0 0 [(0, .ref (ad 0)), (1, .int x1), (2, .int x2)] [] := by
  unfold X6_allowed at h
  refine x_aload_n C 0 dX6_allowed_0 rfl ?_
  refine x_get C (R' := RX6) (T := TX6) (N := 26) (ci := 6) 0 1 rfl rfl (by decide) rfl rfl hi_X6_allowed_6 lk_X6_allowed_13 dX6_allowed_1 ?_
  refine x_aload_n C 0 dX6_allowed_4 rfl ?_
  refine x_get C (R' := RX6) (T := TX6) (N := 26) (ci := 6) 0 22 rfl rfl (by decide) rfl rfl hi_X6_allowed_6 lk_X6_allowed_71 dX6_allowed_5 ?_
  refine x_iload_n C 1 dX6_allowed_8 rfl ?_
  obtain ⟨g9, h⟩ := gdB h
  refine x_iald C 21 rfl g9 dX6_allowed_9 ?_
  obtain ⟨g10, h⟩ := gdB h
  refine x_iald C 2 rfl g10 dX6_allowed_10 ?_
  refine x_iload_n C 2 dX6_allowed_11 rfl ?_
  refine x_ishr C dX6_allowed_12 ?_
  refine x_iconst C (v := 1) dX6_allowed_13 (by decide) ?_
  refine x_iand C dX6_allowed_14 ?_
  refine x_iconst C (v := 1) dX6_allowed_15 (by decide) ?_
  refine x_icmp_ne C (t := 23) dX6_allowed_16 (by decide) (fun c16 => ?_) (fun c16 => ?_)
  · replace h := (if_neg c16).symm.trans h
    refine x_iconst C (v := 0) dX6_allowed_23 (by decide) ?_
    refine x_locals (lv' := []) [] rfl ?_
    exact X_X6_allowed_b24 C h
  · replace h := (if_pos c16).symm.trans h
    refine x_iconst C (v := 1) dX6_allowed_19 (by decide) ?_
    refine x_goto C (t := 24) dX6_allowed_20 (by decide) ?_
    refine x_locals (lv' := []) [] rfl ?_
    exact X_X6_allowed_b24 C h
set_option maxRecDepth 100000 in
theorem c_X6_allowed {l : Launch} {D : va_G} {cI cZ cJ : ClassId} {ad : Nat → Nat} {S : St} {rest : va_W} {x1 x2 : Int32} {r : Int32} (h : X6_allowed S x1 x2 = some r) : ∀ sz, Met l yX6_allowed wsX6_allowed rm_X6_allowed (PC D (t3 cI cZ cJ) [.ref (ad 0), .int x1, .int x2] (wM cI cZ ad S rest) sz) (QI D (t3 cI cZ cJ) (wM cI cZ ad S rest) (wM cI cZ ad S rest) sz r) 0 0 (va_A (wM cI cZ ad S rest) sz) := by
  refine x_met (Qc := fun sz => QI D (t3 cI cZ cJ) (wM cI cZ ad S rest) (wM cI cZ ad S rest) sz r) RX6 rfl (by decide) rfl (Nat.le_of_ble_eq_true rfl) (fun p e s m args below meth c C => ?_)
  exact X_X6_allowed C h
/-! EntryMastersModel.alike(II)Z -/
abbrev rm_X6_alike : Room := { frames := 0, cells := 0, slots := 0, locals := 0 }
def X6_alike_b24  (s0 : Int32) : Option (Int32) :=
  if s0 &&& 1 = s0 then (some s0) else none
set_option maxHeartbeats 4000000 in
set_option maxRecDepth 100000 in
theorem X_X6_alike_b24 {p : Program} {l : Launch} {e : Env} {s : State} {m : MethodId} {args : Array Value} {below : List Frame} {meth : Method} {c : Code} {D : va_G} {cI cZ cJ : ClassId} {w w0 : va_W} (C : XC p rm_X6_alike s m args meth c cX6_alike 2 (some .boolean) RX6 wsX6_alike D (t3 cI cZ cJ)) {s0 : Int32} {r : Int32} (h : X6_alike_b24 s0 = some r) : XW p l e rm_X6_alike s m args below meth c D w0 2 (MQ below (QI D (t3 cI cZ cJ) w0 w s.heap.size r) args s 0 0 (va_A w0 s.heap.size)) w 0 0 24 [] [.int s0] := by
  unfold X6_alike_b24 at h
  obtain ⟨g24, h⟩ := gd h
  obtain rfl := Option.some.inj h
  exact x_zret C g24 dX6_alike_24
def X6_alike_b23  : Option (Int32) :=
  X6_alike_b24 0
set_option maxHeartbeats 4000000 in
set_option maxRecDepth 100000 in
theorem X_X6_alike_b23 {p : Program} {l : Launch} {e : Env} {s : State} {m : MethodId} {args : Array Value} {below : List Frame} {meth : Method} {c : Code} {D : va_G} {cI cZ cJ : ClassId} {w w0 : va_W} (C : XC p rm_X6_alike s m args meth c cX6_alike 2 (some .boolean) RX6 wsX6_alike D (t3 cI cZ cJ)) {r : Int32} (h : X6_alike_b23  = some r) : XW p l e rm_X6_alike s m args below meth c D w0 2 (MQ below (QI D (t3 cI cZ cJ) w0 w s.heap.size r) args s 0 0 (va_A w0 s.heap.size)) w 0 0 23 [] [] := by
  unfold X6_alike_b23 at h
  refine x_iconst C (v := 0) dX6_alike_23 (by decide) ?_
  exact X_X6_alike_b24 C h
def X6_alike  (x0 x1 : Int32) : Option (Int32) :=
  if x0 < 0 then (X6_alike_b23) else (if x1 < 0 then (X6_alike_b23) else (if (x0 - x0 / 50 * 50) = (x1 - x1 / 50 * 50) then (X6_alike_b24 1) else (X6_alike_b23)))
set_option maxHeartbeats 4000000 in
set_option maxRecDepth 100000 in
theorem X_X6_alike {p : Program} {l : Launch} {e : Env} {s : State} {m : MethodId} {args : Array Value} {below : List Frame} {meth : Method} {c : Code} {D : va_G} {cI cZ cJ : ClassId} {w w0 : va_W} (C : XC p rm_X6_alike s m args meth c cX6_alike 2 (some .boolean) RX6 wsX6_alike D (t3 cI cZ cJ)) {x0 x1 : Int32} {r : Int32} (h : X6_alike x0 x1 = some r) : XW p l e rm_X6_alike s m args below meth c D w0 2 (MQ below (QI D (t3 cI cZ cJ) w0 w s.heap.size r) args s 0 0 (va_A w0 s.heap.size)) w 0 0 0 [(0, .int x0), (1, .int x1)] [] := by
  unfold X6_alike at h
  refine x_iload_n C 0 dX6_alike_0 rfl ?_
  refine x_if_lt C (t := 23) dX6_alike_1 (by decide) (fun c1 => ?_) (fun c1 => ?_)
  · replace h := (if_pos c1).symm.trans h
    refine x_locals (lv' := []) [] rfl ?_
    exact X_X6_alike_b23 C h
  · replace h := (if_neg c1).symm.trans h
    refine x_iload_n C 1 dX6_alike_4 rfl ?_
    refine x_if_lt C (t := 23) dX6_alike_5 (by decide) (fun c5 => ?_) (fun c5 => ?_)
    · replace h := (if_pos c5).symm.trans h
      refine x_locals (lv' := []) [] rfl ?_
      exact X_X6_alike_b23 C h
    · replace h := (if_neg c5).symm.trans h
      refine x_iload_n C 0 dX6_alike_8 rfl ?_
      refine x_bipush C (v := 50) dX6_alike_9 (by decide) ?_
      refine x_irem C dX6_alike_11 (by decide) ?_
      refine x_iload_n C 1 dX6_alike_12 rfl ?_
      refine x_bipush C (v := 50) dX6_alike_13 (by decide) ?_
      refine x_irem C dX6_alike_15 (by decide) ?_
      refine x_icmp_ne C (t := 23) dX6_alike_16 (by decide) (fun c16 => ?_) (fun c16 => ?_)
      · replace h := (if_neg c16).symm.trans h
        refine x_locals (lv' := []) [] rfl ?_
        exact X_X6_alike_b23 C h
      · replace h := (if_pos c16).symm.trans h
        refine x_iconst C (v := 1) dX6_alike_19 (by decide) ?_
        refine x_goto C (t := 24) dX6_alike_20 (by decide) ?_
        refine x_locals (lv' := []) [] rfl ?_
        exact X_X6_alike_b24 C h
set_option maxRecDepth 100000 in
theorem c_X6_alike {l : Launch} {D : va_G} {cI cZ cJ : ClassId} {w : va_W} {x0 x1 : Int32} {r : Int32} (h : X6_alike x0 x1 = some r) : ∀ sz, Met l yX6_alike wsX6_alike rm_X6_alike (PC D (t3 cI cZ cJ) [.int x0, .int x1] w sz) (QI D (t3 cI cZ cJ) w w sz r) 0 0 (va_A w sz) := by
  refine x_met (Qc := fun sz => QI D (t3 cI cZ cJ) w w sz r) RX6 rfl (by decide) rfl (Nat.le_of_ble_eq_true rfl) (fun p e s m args below meth c C => ?_)
  exact X_X6_alike C h
/-! EntryMastersModel.finds(III)I -/
abbrev rm_X6_finds : Room := { frames := 1, cells := 0, slots := 0, locals := 21 }
theorem hi_X6_finds_6 : ∀ z ∈ u_ws RX6 TX6 26, z ∈ wsX6_finds := by decide +kernel
theorem lk_X6_finds_62 : Cond.fieldLink RX6 62 RX6 "there" "[Z" ∈ wsX6_finds := by decide +kernel
theorem lk_X6_finds_65 : Cond.fieldLink RX6 65 RX6 "parent" "[I" ∈ wsX6_finds := by decide +kernel
theorem lk_X6_finds_68 : Cond.fieldLink RX6 68 RX6 "label" "[I" ∈ wsX6_finds := by decide +kernel
theorem cw_X6_finds_X6_alike_91 {p : Program} {s : State} {m : MethodId} {args : Array Value} {meth : Method} {c : Code} {D : va_G} {tys : List (ClassId × FieldType)} {R : Room} (C : XC p R s m args meth c cX6_finds 6 (some .int) RX6 wsX6_finds D tys) : CallB rm_X6_finds s args RX6 91 yX6_alike cX6_alike 2 (some .boolean) wsX6_alike rm_X6_alike 0 0 2 ∧ (Cond.static yX6_alike).before args s = true := va_cwS 2 C.2.2.2.2.1 gX6_finds_X6_alike rfl rfl rfl (by decide +kernel) ⟨Nat.le_of_ble_eq_true rfl, Nat.le_of_ble_eq_true rfl⟩
def X6_finds_b69 (S : St) (x4 : Int32) : Option (Int32) :=
  some x4
set_option maxHeartbeats 4000000 in
set_option maxRecDepth 100000 in
theorem X_X6_finds_b69 {p : Program} {l : Launch} {e : Env} {s : State} {m : MethodId} {args : Array Value} {below : List Frame} {meth : Method} {c : Code} {D : va_G} {cI cZ cJ : ClassId} {ad : Nat → Nat} {rest w0 : va_W} (C : XC p rm_X6_finds s m args meth c cX6_finds 6 (some .int) RX6 wsX6_finds D (t3 cI cZ cJ)) {S : St} {x4 : Int32} {r : Int32} (h : X6_finds_b69 S x4 = some r) : XW p l e rm_X6_finds s m args below meth c D w0 6 (MQ below (QI D (t3 cI cZ cJ) w0 (wM cI cZ ad S rest) s.heap.size r) args s 0 0 (va_A w0 s.heap.size)) (wM cI cZ ad S rest) 0 0 69 [(4, .int x4)] [] := by
  unfold X6_finds_b69 at h
  refine x_iload C 0 dX6_finds_69 rfl ?_
  obtain rfl := Option.some.inj h
  exact x_iret C dX6_finds_71
def X6_finds_b61 (S : St) (x1 x2 x3 x5 s0 : Int32) : Option ((Int32 × Int32 × Int32 × Int32 × Int32) ⊕ (Int32)) :=
  some (.inl (x1, x2, x3, s0, x5 + 1))
set_option maxHeartbeats 4000000 in
set_option maxRecDepth 100000 in
theorem X_X6_finds_b61 {p : Program} {l : Launch} {e : Env} {s : State} {m : MethodId} {args : Array Value} {below : List Frame} {meth : Method} {c : Code} {D : va_G} {cI cZ cJ : ClassId} {ad : Nat → Nat} {rest w0 : va_W} (C : XC p rm_X6_finds s m args meth c cX6_finds 6 (some .int) RX6 wsX6_finds D (t3 cI cZ cJ)) {S : St} {x1 x2 x3 x5 s0 : Int32} {z : (Int32 × Int32 × Int32 × Int32 × Int32) ⊕ (Int32)} {r : Int32} (h : X6_finds_b61 S x1 x2 x3 x5 s0 = some z) (hk : ∀ a' : (Int32 × Int32 × Int32 × Int32 × Int32), z = .inl a' → XW p l e rm_X6_finds s m args below meth c D w0 6 (MQ below (QI D (t3 cI cZ cJ) w0 (wM cI cZ ad S rest) s.heap.size r) args s 0 0 (va_A w0 s.heap.size)) (wM cI cZ ad S rest) 0 0 6 [(0, .ref (ad 0)), (1, .int a'.1), (2, .int a'.2.1), (3, .int a'.2.2.1), (4, .int a'.2.2.2.1), (5, .int a'.2.2.2.2)] []) (hr : ∀ r', z = .inr r' → r' = r) : XW p l e rm_X6_finds s m args below meth c D w0 6 (MQ below (QI D (t3 cI cZ cJ) w0 (wM cI cZ ad S rest) s.heap.size r) args s 0 0 (va_A w0 s.heap.size)) (wM cI cZ ad S rest) 0 0 61 [(0, .ref (ad 0)), (1, .int x1), (2, .int x2), (3, .int x3), (5, .int x5)] [.int s0] := by
  unfold X6_finds_b61 at h
  refine x_istore C (lv' := [(0, .ref (ad 0)), (1, .int x1), (2, .int x2), (3, .int x3), (4, .int s0), (5, .int x5)]) dX6_finds_61 (by decide) rfl ?_
  refine x_iinc C (v := x5 + 1) (lv' := [(0, .ref (ad 0)), (1, .int x1), (2, .int x2), (3, .int x3), (4, .int s0), (5, .int (x5 + 1))]) 5 dX6_finds_63 rfl rfl (by decide) rfl ?_
  refine x_goto C (t := 6) dX6_finds_66 (by decide) ?_
  exact hk _ (Option.some.inj h).symm
def X6_finds_b59 (S : St) (x1 x2 x3 x4 x5 : Int32) : Option ((Int32 × Int32 × Int32 × Int32 × Int32) ⊕ (Int32)) :=
  X6_finds_b61 S x1 x2 x3 x5 x4
set_option maxHeartbeats 4000000 in
set_option maxRecDepth 100000 in
theorem X_X6_finds_b59 {p : Program} {l : Launch} {e : Env} {s : State} {m : MethodId} {args : Array Value} {below : List Frame} {meth : Method} {c : Code} {D : va_G} {cI cZ cJ : ClassId} {ad : Nat → Nat} {rest w0 : va_W} (C : XC p rm_X6_finds s m args meth c cX6_finds 6 (some .int) RX6 wsX6_finds D (t3 cI cZ cJ)) {S : St} {x1 x2 x3 x4 x5 : Int32} {z : (Int32 × Int32 × Int32 × Int32 × Int32) ⊕ (Int32)} {r : Int32} (h : X6_finds_b59 S x1 x2 x3 x4 x5 = some z) (hk : ∀ a' : (Int32 × Int32 × Int32 × Int32 × Int32), z = .inl a' → XW p l e rm_X6_finds s m args below meth c D w0 6 (MQ below (QI D (t3 cI cZ cJ) w0 (wM cI cZ ad S rest) s.heap.size r) args s 0 0 (va_A w0 s.heap.size)) (wM cI cZ ad S rest) 0 0 6 [(0, .ref (ad 0)), (1, .int a'.1), (2, .int a'.2.1), (3, .int a'.2.2.1), (4, .int a'.2.2.2.1), (5, .int a'.2.2.2.2)] []) (hr : ∀ r', z = .inr r' → r' = r) : XW p l e rm_X6_finds s m args below meth c D w0 6 (MQ below (QI D (t3 cI cZ cJ) w0 (wM cI cZ ad S rest) s.heap.size r) args s 0 0 (va_A w0 s.heap.size)) (wM cI cZ ad S rest) 0 0 59 [(0, .ref (ad 0)), (1, .int x1), (2, .int x2), (3, .int x3), (4, .int x4), (5, .int x5)] [] := by
  unfold X6_finds_b59 at h
  refine x_iload C 4 dX6_finds_59 rfl ?_
  refine x_locals (lv' := [(0, .ref (ad 0)), (1, .int x1), (2, .int x2), (3, .int x3), (5, .int x5)]) [0, 1, 2, 3, 5] rfl ?_
  exact X_X6_finds_b61 C h hk hr
def X6_finds_H6 (S : St) (x1 x2 x3 x4 x5 : Int32) : Option ((Int32 × Int32 × Int32 × Int32 × Int32) ⊕ (Int32)) :=
  if 42 ≤ x5 then (exI (X6_finds_b69 S x4)) else (if inB x5 42 then (if (S 18 x5.toNatClampNeg) = 0 then (X6_finds_b59 S x1 x2 x3 x4 x5) else (if x5 = x3 then (X6_finds_b59 S x1 x2 x3 x4 x5) else (if inB x5 42 then (if (S 19 x5.toNatClampNeg) = x1 then (if inB x5 42 then ((X6_alike (S 20 x5.toNatClampNeg) x2).bind fun v48 => if v48 = 0 then (X6_finds_b59 S x1 x2 x3 x4 x5) else (X6_finds_b61 S x1 x2 x3 x5 x5)) else none) else (X6_finds_b59 S x1 x2 x3 x4 x5)) else none))) else none)
set_option maxHeartbeats 4000000 in
set_option maxRecDepth 100000 in
theorem X_X6_finds_H6 {p : Program} {l : Launch} {e : Env} {s : State} {m : MethodId} {args : Array Value} {below : List Frame} {meth : Method} {c : Code} {D : va_G} {cI cZ cJ : ClassId} {ad : Nat → Nat} {rest w0 : va_W} (C : XC p rm_X6_finds s m args meth c cX6_finds 6 (some .int) RX6 wsX6_finds D (t3 cI cZ cJ)) {S : St} {x1 x2 x3 x4 x5 : Int32} {z : (Int32 × Int32 × Int32 × Int32 × Int32) ⊕ (Int32)} {r : Int32} (h : X6_finds_H6 S x1 x2 x3 x4 x5 = some z) (hk : ∀ a' : (Int32 × Int32 × Int32 × Int32 × Int32), z = .inl a' → XW p l e rm_X6_finds s m args below meth c D w0 6 (MQ below (QI D (t3 cI cZ cJ) w0 (wM cI cZ ad S rest) s.heap.size r) args s 0 0 (va_A w0 s.heap.size)) (wM cI cZ ad S rest) 0 0 6 [(0, .ref (ad 0)), (1, .int a'.1), (2, .int a'.2.1), (3, .int a'.2.2.1), (4, .int a'.2.2.2.1), (5, .int a'.2.2.2.2)] []) (hr : ∀ r', z = .inr r' → r' = r) : XW p l e rm_X6_finds s m args below meth c D w0 6 (MQ below (QI D (t3 cI cZ cJ) w0 (wM cI cZ ad S rest) s.heap.size r) args s 0 0 (va_A w0 s.heap.size)) (wM cI cZ ad S rest) 0 0 6 [(0, .ref (ad 0)), (1, .int x1), (2, .int x2), (3, .int x3), (4, .int x4), (5, .int x5)] [] := by
  unfold X6_finds_H6 at h
  refine x_iload C 5 dX6_finds_6 rfl ?_
  refine x_bipush C (v := 42) dX6_finds_8 (by decide) ?_
  refine x_icmp_ge C (t := 69) dX6_finds_10 (by decide) (fun c10 => ?_) (fun c10 => ?_)
  · replace h := (if_pos c10).symm.trans h
    refine x_locals (lv' := [(4, .int x4)]) [4] rfl ?_
    obtain ⟨r1, h1, h2⟩ := exI_some h
    obtain rfl := hr r1 h2
    exact X_X6_finds_b69 C h1
  · replace h := (if_neg c10).symm.trans h
    refine x_aload_n C 0 dX6_finds_13 rfl ?_
    refine x_get C (R' := RX6) (T := TX6) (N := 26) (ci := 6) 0 19 rfl rfl (by decide) rfl rfl hi_X6_finds_6 lk_X6_finds_62 dX6_finds_14 ?_
    refine x_iload C 5 dX6_finds_17 rfl ?_
    obtain ⟨g19, h⟩ := gdB h
    refine x_zald C 18 rfl g19 dX6_finds_19 ?_
    refine x_if_eq C (t := 59) dX6_finds_20 (by decide) (fun c20 => ?_) (fun c20 => ?_)
    · replace h := (if_pos c20).symm.trans h
      exact X_X6_finds_b59 C h hk hr
    · replace h := (if_neg c20).symm.trans h
      refine x_iload C 5 dX6_finds_23 rfl ?_
      refine x_iload_n C 3 dX6_finds_25 rfl ?_
      refine x_icmp_eq C (t := 59) dX6_finds_26 (by decide) (fun c26 => ?_) (fun c26 => ?_)
      · replace h := (if_pos c26).symm.trans h
        exact X_X6_finds_b59 C h hk hr
      · replace h := (if_neg c26).symm.trans h
        refine x_aload_n C 0 dX6_finds_29 rfl ?_
        refine x_get C (R' := RX6) (T := TX6) (N := 26) (ci := 6) 0 20 rfl rfl (by decide) rfl rfl hi_X6_finds_6 lk_X6_finds_65 dX6_finds_30 ?_
        refine x_iload C 5 dX6_finds_33 rfl ?_
        obtain ⟨g35, h⟩ := gdB h
        refine x_iald C 19 rfl g35 dX6_finds_35 ?_
        refine x_iload_n C 1 dX6_finds_36 rfl ?_
        refine x_icmp_ne C (t := 59) dX6_finds_37 (by decide) (fun c37 => ?_) (fun c37 => ?_)
        · replace h := (if_neg c37).symm.trans h
          exact X_X6_finds_b59 C h hk hr
        · replace h := (if_pos c37).symm.trans h
          refine x_aload_n C 0 dX6_finds_40 rfl ?_
          refine x_get C (R' := RX6) (T := TX6) (N := 26) (ci := 6) 0 21 rfl rfl (by decide) rfl rfl hi_X6_finds_6 lk_X6_finds_68 dX6_finds_41 ?_
          refine x_iload C 5 dX6_finds_44 rfl ?_
          obtain ⟨g46, h⟩ := gdB h
          refine x_iald C 20 rfl g46 dX6_finds_46 ?_
          refine x_iload_n C 2 dX6_finds_47 rfl ?_
          obtain ⟨v48, hg48, h⟩ := ob h
          refine x_ci0 (x_runS C (As := [.int (S 20 x5.toNatClampNeg), .int x2]) (rest := []) (c_X6_alike hg48) (cw_X6_finds_X6_alike_91 C) rfl (Nat.le_of_ble_eq_true rfl) dX6_finds_48 ⟨Nat.zero_le _, Nat.zero_le _⟩) ?_
          refine x_if_eq C (t := 59) dX6_finds_51 (by decide) (fun c51 => ?_) (fun c51 => ?_)
          · replace h := (if_pos c51).symm.trans h
            exact X_X6_finds_b59 C h hk hr
          · replace h := (if_neg c51).symm.trans h
            refine x_iload C 5 dX6_finds_54 rfl ?_
            refine x_goto C (t := 61) dX6_finds_56 (by decide) ?_
            refine x_locals (lv' := [(0, .ref (ad 0)), (1, .int x1), (2, .int x2), (3, .int x3), (5, .int x5)]) [0, 1, 2, 3, 5] rfl ?_
            exact X_X6_finds_b61 C h hk hr
def X6_finds_L6 (S : St) (x1 x2 x3 x4 x5 : Int32) : Option (Int32) := wloop (fun a' : (Int32 × Int32 × Int32 × Int32 × Int32) => X6_finds_H6 S a'.1 a'.2.1 a'.2.2.1 a'.2.2.2.1 a'.2.2.2.2) 1000 (x1, x2, x3, x4, x5)
set_option maxHeartbeats 4000000 in
set_option maxRecDepth 100000 in
theorem X_X6_finds_L6 {p : Program} {l : Launch} {e : Env} {s : State} {m : MethodId} {args : Array Value} {below : List Frame} {meth : Method} {c : Code} {D : va_G} {cI cZ cJ : ClassId} {ad : Nat → Nat} {rest w0 : va_W} (C : XC p rm_X6_finds s m args meth c cX6_finds 6 (some .int) RX6 wsX6_finds D (t3 cI cZ cJ)) {S : St} {x1 x2 x3 x4 x5 : Int32} {r : Int32} (h : X6_finds_L6 S x1 x2 x3 x4 x5 = some r) : XW p l e rm_X6_finds s m args below meth c D w0 6 (MQ below (QI D (t3 cI cZ cJ) w0 (wM cI cZ ad S rest) s.heap.size r) args s 0 0 (va_A w0 s.heap.size)) (wM cI cZ ad S rest) 0 0 6 [(0, .ref (ad 0)), (1, .int x1), (2, .int x2), (3, .int x3), (4, .int x4), (5, .int x5)] [] :=
  wloop_met (P := (fun a' : (Int32 × Int32 × Int32 × Int32 × Int32) => XW p l e rm_X6_finds s m args below meth c D w0 6 (MQ below (QI D (t3 cI cZ cJ) w0 (wM cI cZ ad S rest) s.heap.size r) args s 0 0 (va_A w0 s.heap.size)) (wM cI cZ ad S rest) 0 0 6 [(0, .ref (ad 0)), (1, .int a'.1), (2, .int a'.2.1), (3, .int a'.2.2.1), (4, .int a'.2.2.2.1), (5, .int a'.2.2.2.2)] [])) (fun _ _ hz hk hr => X_X6_finds_H6 C hz hk hr) 1000 (x1, x2, x3, x4, x5) h
def X6_finds (S : St) (x1 x2 x3 : Int32) : Option (Int32) :=
  X6_finds_L6 S x1 x2 x3 (-1) 0
set_option maxHeartbeats 4000000 in
set_option maxRecDepth 100000 in
theorem X_X6_finds {p : Program} {l : Launch} {e : Env} {s : State} {m : MethodId} {args : Array Value} {below : List Frame} {meth : Method} {c : Code} {D : va_G} {cI cZ cJ : ClassId} {ad : Nat → Nat} {rest w0 : va_W} (C : XC p rm_X6_finds s m args meth c cX6_finds 6 (some .int) RX6 wsX6_finds D (t3 cI cZ cJ)) {S : St} {x1 x2 x3 : Int32} {r : Int32} (h : X6_finds S x1 x2 x3 = some r) : XW p l e rm_X6_finds s m args below meth c D w0 6 (MQ below (QI D (t3 cI cZ cJ) w0 (wM cI cZ ad S rest) s.heap.size r) args s 0 0 (va_A w0 s.heap.size)) (wM cI cZ ad S rest) 0 0 0 [(0, .ref (ad 0)), (1, .int x1), (2, .int x2), (3, .int x3)] [] := by
  unfold X6_finds at h
  refine x_iconst C (v := (-1)) dX6_finds_0 (by decide) ?_
  refine x_istore C (lv' := [(0, .ref (ad 0)), (1, .int x1), (2, .int x2), (3, .int x3), (4, .int (-1))]) dX6_finds_1 (by decide) rfl ?_
  refine x_iconst C (v := 0) dX6_finds_3 (by decide) ?_
  refine x_istore C (lv' := [(0, .ref (ad 0)), (1, .int x1), (2, .int x2), (3, .int x3), (4, .int (-1)), (5, .int 0)]) dX6_finds_4 (by decide) rfl ?_
  exact X_X6_finds_L6 C h
set_option maxRecDepth 100000 in
theorem c_X6_finds {l : Launch} {D : va_G} {cI cZ cJ : ClassId} {ad : Nat → Nat} {S : St} {rest : va_W} {x1 x2 x3 : Int32} {r : Int32} (h : X6_finds S x1 x2 x3 = some r) : ∀ sz, Met l yX6_finds wsX6_finds rm_X6_finds (PC D (t3 cI cZ cJ) [.ref (ad 0), .int x1, .int x2, .int x3] (wM cI cZ ad S rest) sz) (QI D (t3 cI cZ cJ) (wM cI cZ ad S rest) (wM cI cZ ad S rest) sz r) 0 0 (va_A (wM cI cZ ad S rest) sz) := by
  refine x_met (Qc := fun sz => QI D (t3 cI cZ cJ) (wM cI cZ ad S rest) (wM cI cZ ad S rest) sz r) RX6 rfl (by decide) rfl (Nat.le_of_ble_eq_true rfl) (fun p e s m args below meth c C => ?_)
  exact X_X6_finds C h
/-! EntryMastersModel.isWithin(II)Z -/
abbrev rm_X6_isWithin : Room := { frames := 0, cells := 0, slots := 0, locals := 0 }
theorem hi_X6_isWithin_6 : ∀ z ∈ u_ws RX6 TX6 26, z ∈ wsX6_isWithin := by decide +kernel
theorem lk_X6_isWithin_65 : Cond.fieldLink RX6 65 RX6 "parent" "[I" ∈ wsX6_isWithin := by decide +kernel
def X6_isWithin_b31 (S : St) (s0 : Int32) : Option (Int32) :=
  if s0 &&& 1 = s0 then (some s0) else none
set_option maxHeartbeats 4000000 in
set_option maxRecDepth 100000 in
theorem X_X6_isWithin_b31 {p : Program} {l : Launch} {e : Env} {s : State} {m : MethodId} {args : Array Value} {below : List Frame} {meth : Method} {c : Code} {D : va_G} {cI cZ cJ : ClassId} {ad : Nat → Nat} {rest w0 : va_W} (C : XC p rm_X6_isWithin s m args meth c cX6_isWithin 4 (some .boolean) RX6 wsX6_isWithin D (t3 cI cZ cJ)) {S : St} {s0 : Int32} {r : Int32} (h : X6_isWithin_b31 S s0 = some r) : XW p l e rm_X6_isWithin s m args below meth c D w0 4 (MQ below (QI D (t3 cI cZ cJ) w0 (wM cI cZ ad S rest) s.heap.size r) args s 0 0 (va_A w0 s.heap.size)) (wM cI cZ ad S rest) 0 0 31 [] [.int s0] := by
  unfold X6_isWithin_b31 at h
  obtain ⟨g31, h⟩ := gd h
  obtain rfl := Option.some.inj h
  exact x_zret C g31 dX6_isWithin_31
def X6_isWithin_b21 (S : St) (x2 x3 : Int32) : Option (Int32) :=
  if x3 = x2 then (X6_isWithin_b31 S 1) else (X6_isWithin_b31 S 0)
set_option maxHeartbeats 4000000 in
set_option maxRecDepth 100000 in
theorem X_X6_isWithin_b21 {p : Program} {l : Launch} {e : Env} {s : State} {m : MethodId} {args : Array Value} {below : List Frame} {meth : Method} {c : Code} {D : va_G} {cI cZ cJ : ClassId} {ad : Nat → Nat} {rest w0 : va_W} (C : XC p rm_X6_isWithin s m args meth c cX6_isWithin 4 (some .boolean) RX6 wsX6_isWithin D (t3 cI cZ cJ)) {S : St} {x2 x3 : Int32} {r : Int32} (h : X6_isWithin_b21 S x2 x3 = some r) : XW p l e rm_X6_isWithin s m args below meth c D w0 4 (MQ below (QI D (t3 cI cZ cJ) w0 (wM cI cZ ad S rest) s.heap.size r) args s 0 0 (va_A w0 s.heap.size)) (wM cI cZ ad S rest) 0 0 21 [(2, .int x2), (3, .int x3)] [] := by
  unfold X6_isWithin_b21 at h
  refine x_iload_n C 1 dX6_isWithin_21 rfl ?_
  refine x_iload_n C 0 dX6_isWithin_22 rfl ?_
  refine x_icmp_ne C (t := 30) dX6_isWithin_23 (by decide) (fun c23 => ?_) (fun c23 => ?_)
  · replace h := (if_neg c23).symm.trans h
    refine x_iconst C (v := 0) dX6_isWithin_30 (by decide) ?_
    refine x_locals (lv' := []) [] rfl ?_
    exact X_X6_isWithin_b31 C h
  · replace h := (if_pos c23).symm.trans h
    refine x_iconst C (v := 1) dX6_isWithin_26 (by decide) ?_
    refine x_goto C (t := 31) dX6_isWithin_27 (by decide) ?_
    refine x_locals (lv' := []) [] rfl ?_
    exact X_X6_isWithin_b31 C h
def X6_isWithin_H2 (S : St) (x2 x3 : Int32) : Option ((Int32 × Int32) ⊕ (Int32)) :=
  if x3 = 0 then (exI (X6_isWithin_b21 S x2 x3)) else (if x3 = x2 then (exI (X6_isWithin_b21 S x2 x3)) else (if inB x3 42 then (some (.inl (x2, S 19 x3.toNatClampNeg))) else none))
set_option maxHeartbeats 4000000 in
set_option maxRecDepth 100000 in
theorem X_X6_isWithin_H2 {p : Program} {l : Launch} {e : Env} {s : State} {m : MethodId} {args : Array Value} {below : List Frame} {meth : Method} {c : Code} {D : va_G} {cI cZ cJ : ClassId} {ad : Nat → Nat} {rest w0 : va_W} (C : XC p rm_X6_isWithin s m args meth c cX6_isWithin 4 (some .boolean) RX6 wsX6_isWithin D (t3 cI cZ cJ)) {S : St} {x2 x3 : Int32} {z : (Int32 × Int32) ⊕ (Int32)} {r : Int32} (h : X6_isWithin_H2 S x2 x3 = some z) (hk : ∀ a' : (Int32 × Int32), z = .inl a' → XW p l e rm_X6_isWithin s m args below meth c D w0 4 (MQ below (QI D (t3 cI cZ cJ) w0 (wM cI cZ ad S rest) s.heap.size r) args s 0 0 (va_A w0 s.heap.size)) (wM cI cZ ad S rest) 0 0 2 [(0, .ref (ad 0)), (2, .int a'.1), (3, .int a'.2)] []) (hr : ∀ r', z = .inr r' → r' = r) : XW p l e rm_X6_isWithin s m args below meth c D w0 4 (MQ below (QI D (t3 cI cZ cJ) w0 (wM cI cZ ad S rest) s.heap.size r) args s 0 0 (va_A w0 s.heap.size)) (wM cI cZ ad S rest) 0 0 2 [(0, .ref (ad 0)), (2, .int x2), (3, .int x3)] [] := by
  unfold X6_isWithin_H2 at h
  refine x_iload_n C 2 dX6_isWithin_2 rfl ?_
  refine x_if_eq C (t := 21) dX6_isWithin_3 (by decide) (fun c3 => ?_) (fun c3 => ?_)
  · replace h := (if_pos c3).symm.trans h
    refine x_locals (lv' := [(2, .int x2), (3, .int x3)]) [1, 2] rfl ?_
    obtain ⟨r1, h1, h2⟩ := exI_some h
    obtain rfl := hr r1 h2
    exact X_X6_isWithin_b21 C h1
  · replace h := (if_neg c3).symm.trans h
    refine x_iload_n C 2 dX6_isWithin_6 rfl ?_
    refine x_iload_n C 1 dX6_isWithin_7 rfl ?_
    refine x_icmp_eq C (t := 21) dX6_isWithin_8 (by decide) (fun c8 => ?_) (fun c8 => ?_)
    · replace h := (if_pos c8).symm.trans h
      refine x_locals (lv' := [(2, .int x2), (3, .int x3)]) [1, 2] rfl ?_
      obtain ⟨r1, h1, h2⟩ := exI_some h
      obtain rfl := hr r1 h2
      exact X_X6_isWithin_b21 C h1
    · replace h := (if_neg c8).symm.trans h
      refine x_aload_n C 0 dX6_isWithin_11 rfl ?_
      refine x_get C (R' := RX6) (T := TX6) (N := 26) (ci := 6) 0 20 rfl rfl (by decide) rfl rfl hi_X6_isWithin_6 lk_X6_isWithin_65 dX6_isWithin_12 ?_
      refine x_iload_n C 2 dX6_isWithin_15 rfl ?_
      obtain ⟨g16, h⟩ := gdB h
      refine x_iald C 19 rfl g16 dX6_isWithin_16 ?_
      refine x_istore_n C (lv' := [(0, .ref (ad 0)), (2, .int x2), (3, .int (S 19 x3.toNatClampNeg))]) dX6_isWithin_17 (by decide) rfl ?_
      refine x_goto C (t := 2) dX6_isWithin_18 (by decide) ?_
      exact hk _ (Option.some.inj h).symm
def X6_isWithin_L2 (S : St) (x2 x3 : Int32) : Option (Int32) := wloop (fun a' : (Int32 × Int32) => X6_isWithin_H2 S a'.1 a'.2) 1000 (x2, x3)
set_option maxHeartbeats 4000000 in
set_option maxRecDepth 100000 in
theorem X_X6_isWithin_L2 {p : Program} {l : Launch} {e : Env} {s : State} {m : MethodId} {args : Array Value} {below : List Frame} {meth : Method} {c : Code} {D : va_G} {cI cZ cJ : ClassId} {ad : Nat → Nat} {rest w0 : va_W} (C : XC p rm_X6_isWithin s m args meth c cX6_isWithin 4 (some .boolean) RX6 wsX6_isWithin D (t3 cI cZ cJ)) {S : St} {x2 x3 : Int32} {r : Int32} (h : X6_isWithin_L2 S x2 x3 = some r) : XW p l e rm_X6_isWithin s m args below meth c D w0 4 (MQ below (QI D (t3 cI cZ cJ) w0 (wM cI cZ ad S rest) s.heap.size r) args s 0 0 (va_A w0 s.heap.size)) (wM cI cZ ad S rest) 0 0 2 [(0, .ref (ad 0)), (2, .int x2), (3, .int x3)] [] :=
  wloop_met (P := (fun a' : (Int32 × Int32) => XW p l e rm_X6_isWithin s m args below meth c D w0 4 (MQ below (QI D (t3 cI cZ cJ) w0 (wM cI cZ ad S rest) s.heap.size r) args s 0 0 (va_A w0 s.heap.size)) (wM cI cZ ad S rest) 0 0 2 [(0, .ref (ad 0)), (2, .int a'.1), (3, .int a'.2)] [])) (fun _ _ hz hk hr => X_X6_isWithin_H2 C hz hk hr) 1000 (x2, x3) h
def X6_isWithin (S : St) (x1 x2 : Int32) : Option (Int32) :=
  X6_isWithin_L2 S x2 x1
set_option maxHeartbeats 4000000 in
set_option maxRecDepth 100000 in
theorem X_X6_isWithin {p : Program} {l : Launch} {e : Env} {s : State} {m : MethodId} {args : Array Value} {below : List Frame} {meth : Method} {c : Code} {D : va_G} {cI cZ cJ : ClassId} {ad : Nat → Nat} {rest w0 : va_W} (C : XC p rm_X6_isWithin s m args meth c cX6_isWithin 4 (some .boolean) RX6 wsX6_isWithin D (t3 cI cZ cJ)) {S : St} {x1 x2 : Int32} {r : Int32} (h : X6_isWithin S x1 x2 = some r) : XW p l e rm_X6_isWithin s m args below meth c D w0 4 (MQ below (QI D (t3 cI cZ cJ) w0 (wM cI cZ ad S rest) s.heap.size r) args s 0 0 (va_A w0 s.heap.size)) (wM cI cZ ad S rest) 0 0 0 [(0, .ref (ad 0)), (1, .int x1), (2, .int x2)] [] := by
  unfold X6_isWithin at h
  refine x_iload_n C 1 dX6_isWithin_0 rfl ?_
  refine x_istore_n C (lv' := [(0, .ref (ad 0)), (1, .int x1), (2, .int x2), (3, .int x1)]) dX6_isWithin_1 (by decide) rfl ?_
  refine x_locals (lv' := [(0, .ref (ad 0)), (2, .int x2), (3, .int x1)]) [0, 2, 3] rfl ?_
  exact X_X6_isWithin_L2 C h
set_option maxRecDepth 100000 in
theorem c_X6_isWithin {l : Launch} {D : va_G} {cI cZ cJ : ClassId} {ad : Nat → Nat} {S : St} {rest : va_W} {x1 x2 : Int32} {r : Int32} (h : X6_isWithin S x1 x2 = some r) : ∀ sz, Met l yX6_isWithin wsX6_isWithin rm_X6_isWithin (PC D (t3 cI cZ cJ) [.ref (ad 0), .int x1, .int x2] (wM cI cZ ad S rest) sz) (QI D (t3 cI cZ cJ) (wM cI cZ ad S rest) (wM cI cZ ad S rest) sz r) 0 0 (va_A (wM cI cZ ad S rest) sz) := by
  refine x_met (Qc := fun sz => QI D (t3 cI cZ cJ) (wM cI cZ ad S rest) (wM cI cZ ad S rest) sz r) RX6 rfl (by decide) rfl (Nat.le_of_ble_eq_true rfl) (fun p e s m args below meth c C => ?_)
  exact X_X6_isWithin C h
/-! EntryMastersModel.hangs(II)V -/
abbrev rm_X6_hangs : Room := { frames := 2, cells := 0, slots := 0, locals := 46 }
theorem hi_X6_hangs_6 : ∀ z ∈ u_ws RX6 TX6 26, z ∈ wsX6_hangs := by decide +kernel
theorem lk_X6_hangs_62 : Cond.fieldLink RX6 62 RX6 "there" "[Z" ∈ wsX6_hangs := by decide +kernel
theorem lk_X6_hangs_65 : Cond.fieldLink RX6 65 RX6 "parent" "[I" ∈ wsX6_hangs := by decide +kernel
theorem lk_X6_hangs_68 : Cond.fieldLink RX6 68 RX6 "label" "[I" ∈ wsX6_hangs := by decide +kernel
theorem cw_X6_hangs_X6_finds_95 {p : Program} {s : State} {m : MethodId} {args : Array Value} {meth : Method} {c : Code} {D : va_G} {tys : List (ClassId × FieldType)} {R : Room} (C : XC p R s m args meth c cX6_hangs 3 none RX6 wsX6_hangs D tys) : CallW rm_X6_hangs s args RX6 RX6 95 yX6_finds cX6_finds 6 (some .int) wsX6_finds rm_X6_finds 0 0 3 := cwV 3 C.2.2.2.2.1 gX6_hangs_X6_finds rfl rfl rfl (by decide +kernel) ⟨Nat.le_of_ble_eq_true rfl, Nat.le_of_ble_eq_true rfl⟩
def X6_hangs_b56 (S : St) : Option (St) :=
  some S
set_option maxHeartbeats 4000000 in
set_option maxRecDepth 100000 in
theorem X_X6_hangs_b56 {p : Program} {l : Launch} {e : Env} {s : State} {m : MethodId} {args : Array Value} {below : List Frame} {meth : Method} {c : Code} {D : va_G} {cI cZ cJ : ClassId} {ad : Nat → Nat} {rest w0 : va_W} (C : XC p rm_X6_hangs s m args meth c cX6_hangs 3 none RX6 wsX6_hangs D (t3 cI cZ cJ)) {S : St} {r : St} (h : X6_hangs_b56 S = some r) : XW p l e rm_X6_hangs s m args below meth c D w0 3 (MQ below (QV D (t3 cI cZ cJ) w0 (wM cI cZ ad r rest) s.heap.size) args s 0 0 (va_A w0 s.heap.size)) (wM cI cZ ad S rest) 0 0 56 [] [] := by
  unfold X6_hangs_b56 at h
  obtain rfl := Option.some.inj h
  exact x_vret C dX6_hangs_56
def X6_hangs_b55 (S : St) (s0 s1 : Int32) : Option (St) :=
  if inB s1 42 then (X6_hangs_b56 (up S 20 (upd (S 20) s1.toNatClampNeg s0))) else none
set_option maxHeartbeats 4000000 in
set_option maxRecDepth 100000 in
theorem X_X6_hangs_b55 {p : Program} {l : Launch} {e : Env} {s : State} {m : MethodId} {args : Array Value} {below : List Frame} {meth : Method} {c : Code} {D : va_G} {cI cZ cJ : ClassId} {ad : Nat → Nat} {rest w0 : va_W} (C : XC p rm_X6_hangs s m args meth c cX6_hangs 3 none RX6 wsX6_hangs D (t3 cI cZ cJ)) {S : St} {s0 s1 : Int32} {r : St} (h : X6_hangs_b55 S s0 s1 = some r) : XW p l e rm_X6_hangs s m args below meth c D w0 3 (MQ below (QV D (t3 cI cZ cJ) w0 (wM cI cZ ad r rest) s.heap.size) args s 0 0 (va_A w0 s.heap.size)) (wM cI cZ ad S rest) 0 0 55 [] [.int s0, .int s1, .ref (ad 20)] := by
  unfold X6_hangs_b55 at h
  obtain ⟨g55, h⟩ := gdB h
  refine x_iast C 20 rfl g55 dX6_hangs_55 (wM_s20 cI cZ ad S rest (upd (S 20) s1.toNatClampNeg s0)) ?_
  exact X_X6_hangs_b56 C h
def X6_hangs_b20 (S : St) (x1 : Int32) : Option (St) :=
  if inB x1 42 then (if inB x1 42 then ((X6_finds S (S 19 x1.toNatClampNeg) (S 20 x1.toNatClampNeg) x1).bind fun v39 => if 0 ≤ v39 then (X6_hangs_b55 S (-1) x1) else (if inB x1 42 then (X6_hangs_b55 S (S 20 x1.toNatClampNeg) x1) else none)) else none) else none
set_option maxHeartbeats 4000000 in
set_option maxRecDepth 100000 in
theorem X_X6_hangs_b20 {p : Program} {l : Launch} {e : Env} {s : State} {m : MethodId} {args : Array Value} {below : List Frame} {meth : Method} {c : Code} {D : va_G} {cI cZ cJ : ClassId} {ad : Nat → Nat} {rest w0 : va_W} (C : XC p rm_X6_hangs s m args meth c cX6_hangs 3 none RX6 wsX6_hangs D (t3 cI cZ cJ)) {S : St} {x1 : Int32} {r : St} (h : X6_hangs_b20 S x1 = some r) : XW p l e rm_X6_hangs s m args below meth c D w0 3 (MQ below (QV D (t3 cI cZ cJ) w0 (wM cI cZ ad r rest) s.heap.size) args s 0 0 (va_A w0 s.heap.size)) (wM cI cZ ad S rest) 0 0 20 [(0, .ref (ad 0)), (1, .int x1)] [] := by
  unfold X6_hangs_b20 at h
  refine x_aload_n C 0 dX6_hangs_20 rfl ?_
  refine x_get C (R' := RX6) (T := TX6) (N := 26) (ci := 6) 0 21 rfl rfl (by decide) rfl rfl hi_X6_hangs_6 lk_X6_hangs_68 dX6_hangs_21 ?_
  refine x_iload_n C 1 dX6_hangs_24 rfl ?_
  refine x_aload_n C 0 dX6_hangs_25 rfl ?_
  refine x_aload_n C 0 dX6_hangs_26 rfl ?_
  refine x_get C (R' := RX6) (T := TX6) (N := 26) (ci := 6) 0 20 rfl rfl (by decide) rfl rfl hi_X6_hangs_6 lk_X6_hangs_65 dX6_hangs_27 ?_
  refine x_iload_n C 1 dX6_hangs_30 rfl ?_
  obtain ⟨g31, h⟩ := gdB h
  refine x_iald C 19 rfl g31 dX6_hangs_31 ?_
  refine x_aload_n C 0 dX6_hangs_32 rfl ?_
  refine x_get C (R' := RX6) (T := TX6) (N := 26) (ci := 6) 0 21 rfl rfl (by decide) rfl rfl hi_X6_hangs_6 lk_X6_hangs_68 dX6_hangs_33 ?_
  refine x_iload_n C 1 dX6_hangs_36 rfl ?_
  obtain ⟨g37, h⟩ := gdB h
  refine x_iald C 20 rfl g37 dX6_hangs_37 ?_
  refine x_iload_n C 1 dX6_hangs_38 rfl ?_
  obtain ⟨v39, hg39, h⟩ := ob h
  refine x_ci0 (x_runV C (As := [.int (S 19 x1.toNatClampNeg), .int (S 20 x1.toNatClampNeg), .int x1]) (rest := [.int x1, .ref (ad 20)]) (c_X6_finds hg39) (cw_X6_hangs_X6_finds_95 C) 0 rfl rfl rfl (Nat.le_of_ble_eq_true rfl) dX6_hangs_39 ⟨Nat.zero_le _, Nat.zero_le _⟩) ?_
  refine x_if_ge C (t := 54) dX6_hangs_42 (by decide) (fun c42 => ?_) (fun c42 => ?_)
  · replace h := (if_pos c42).symm.trans h
    refine x_iconst C (v := (-1)) dX6_hangs_54 (by decide) ?_
    refine x_locals (lv' := []) [] rfl ?_
    exact X_X6_hangs_b55 C h
  · replace h := (if_neg c42).symm.trans h
    refine x_aload_n C 0 dX6_hangs_45 rfl ?_
    refine x_get C (R' := RX6) (T := TX6) (N := 26) (ci := 6) 0 21 rfl rfl (by decide) rfl rfl hi_X6_hangs_6 lk_X6_hangs_68 dX6_hangs_46 ?_
    refine x_iload_n C 1 dX6_hangs_49 rfl ?_
    obtain ⟨g50, h⟩ := gdB h
    refine x_iald C 20 rfl g50 dX6_hangs_50 ?_
    refine x_goto C (t := 55) dX6_hangs_51 (by decide) ?_
    refine x_locals (lv' := []) [] rfl ?_
    exact X_X6_hangs_b55 C h
def X6_hangs_b19 (S : St) (x1 s0 s1 : Int32) : Option (St) :=
  if inB s1 42 then (X6_hangs_b20 (up S 19 (upd (S 19) s1.toNatClampNeg s0)) x1) else none
set_option maxHeartbeats 4000000 in
set_option maxRecDepth 100000 in
theorem X_X6_hangs_b19 {p : Program} {l : Launch} {e : Env} {s : State} {m : MethodId} {args : Array Value} {below : List Frame} {meth : Method} {c : Code} {D : va_G} {cI cZ cJ : ClassId} {ad : Nat → Nat} {rest w0 : va_W} (C : XC p rm_X6_hangs s m args meth c cX6_hangs 3 none RX6 wsX6_hangs D (t3 cI cZ cJ)) {S : St} {x1 s0 s1 : Int32} {r : St} (h : X6_hangs_b19 S x1 s0 s1 = some r) : XW p l e rm_X6_hangs s m args below meth c D w0 3 (MQ below (QV D (t3 cI cZ cJ) w0 (wM cI cZ ad r rest) s.heap.size) args s 0 0 (va_A w0 s.heap.size)) (wM cI cZ ad S rest) 0 0 19 [(0, .ref (ad 0)), (1, .int x1)] [.int s0, .int s1, .ref (ad 19)] := by
  unfold X6_hangs_b19 at h
  obtain ⟨g19, h⟩ := gdB h
  refine x_iast C 19 rfl g19 dX6_hangs_19 (wM_s19 cI cZ ad S rest (upd (S 19) s1.toNatClampNeg s0)) ?_
  exact X_X6_hangs_b20 C h
def X6_hangs (S : St) (x1 x2 : Int32) : Option (St) :=
  if inB x2 42 then (if (S 18 x2.toNatClampNeg) = 0 then (X6_hangs_b19 S x1 1 x1) else (X6_hangs_b19 S x1 x2 x1)) else none
set_option maxHeartbeats 4000000 in
set_option maxRecDepth 100000 in
theorem X_X6_hangs {p : Program} {l : Launch} {e : Env} {s : State} {m : MethodId} {args : Array Value} {below : List Frame} {meth : Method} {c : Code} {D : va_G} {cI cZ cJ : ClassId} {ad : Nat → Nat} {rest w0 : va_W} (C : XC p rm_X6_hangs s m args meth c cX6_hangs 3 none RX6 wsX6_hangs D (t3 cI cZ cJ)) {S : St} {x1 x2 : Int32} {r : St} (h : X6_hangs S x1 x2 = some r) : XW p l e rm_X6_hangs s m args below meth c D w0 3 (MQ below (QV D (t3 cI cZ cJ) w0 (wM cI cZ ad r rest) s.heap.size) args s 0 0 (va_A w0 s.heap.size)) (wM cI cZ ad S rest) 0 0 0 [(0, .ref (ad 0)), (1, .int x1), (2, .int x2)] [] := by
  unfold X6_hangs at h
  refine x_aload_n C 0 dX6_hangs_0 rfl ?_
  refine x_get C (R' := RX6) (T := TX6) (N := 26) (ci := 6) 0 20 rfl rfl (by decide) rfl rfl hi_X6_hangs_6 lk_X6_hangs_65 dX6_hangs_1 ?_
  refine x_iload_n C 1 dX6_hangs_4 rfl ?_
  refine x_aload_n C 0 dX6_hangs_5 rfl ?_
  refine x_get C (R' := RX6) (T := TX6) (N := 26) (ci := 6) 0 19 rfl rfl (by decide) rfl rfl hi_X6_hangs_6 lk_X6_hangs_62 dX6_hangs_6 ?_
  refine x_iload_n C 2 dX6_hangs_9 rfl ?_
  obtain ⟨g10, h⟩ := gdB h
  refine x_zald C 18 rfl g10 dX6_hangs_10 ?_
  refine x_if_eq C (t := 18) dX6_hangs_11 (by decide) (fun c11 => ?_) (fun c11 => ?_)
  · replace h := (if_pos c11).symm.trans h
    refine x_iconst C (v := 1) dX6_hangs_18 (by decide) ?_
    refine x_locals (lv' := [(0, .ref (ad 0)), (1, .int x1)]) [0, 1] rfl ?_
    exact X_X6_hangs_b19 C h
  · replace h := (if_neg c11).symm.trans h
    refine x_iload_n C 2 dX6_hangs_14 rfl ?_
    refine x_goto C (t := 19) dX6_hangs_15 (by decide) ?_
    refine x_locals (lv' := [(0, .ref (ad 0)), (1, .int x1)]) [0, 1] rfl ?_
    exact X_X6_hangs_b19 C h
set_option maxRecDepth 100000 in
theorem c_X6_hangs {l : Launch} {D : va_G} {cI cZ cJ : ClassId} {ad : Nat → Nat} {S : St} {rest : va_W} {x1 x2 : Int32} {r : St} (h : X6_hangs S x1 x2 = some r) : ∀ sz, Met l yX6_hangs wsX6_hangs rm_X6_hangs (PC D (t3 cI cZ cJ) [.ref (ad 0), .int x1, .int x2] (wM cI cZ ad S rest) sz) (QV D (t3 cI cZ cJ) (wM cI cZ ad S rest) (wM cI cZ ad r rest) sz) 0 0 (va_A (wM cI cZ ad S rest) sz) := by
  refine x_met (Qc := fun sz => QV D (t3 cI cZ cJ) (wM cI cZ ad S rest) (wM cI cZ ad r rest) sz) RX6 rfl (by decide) rfl (Nat.le_of_ble_eq_true rfl) (fun p e s m args below meth c C => ?_)
  exact X_X6_hangs C h
/-! EntryMastersModel.does(I)V -/
abbrev rm_X6_does : Room := { frames := 3, cells := 0, slots := 0, locals := 68 }
theorem hi_X6_does_6 : ∀ z ∈ u_ws RX6 TX6 26, z ∈ wsX6_does := by decide +kernel
theorem lk_X6_does_16 : Cond.fieldLink RX6 16 RX6 "kind" "[I" ∈ wsX6_does := by decide +kernel
theorem lk_X6_does_19 : Cond.fieldLink RX6 19 RX6 "entry" "[I" ∈ wsX6_does := by decide +kernel
theorem lk_X6_does_22 : Cond.fieldLink RX6 22 RX6 "under" "[I" ∈ wsX6_does := by decide +kernel
theorem lk_X6_does_25 : Cond.fieldLink RX6 25 RX6 "named" "[I" ∈ wsX6_does := by decide +kernel
theorem lk_X6_does_28 : Cond.fieldLink RX6 28 RX6 "which" "[I" ∈ wsX6_does := by decide +kernel
theorem lk_X6_does_31 : Cond.fieldLink RX6 31 RX6 "worth" "[I" ∈ wsX6_does := by decide +kernel
theorem lk_X6_does_62 : Cond.fieldLink RX6 62 RX6 "there" "[Z" ∈ wsX6_does := by decide +kernel
theorem lk_X6_does_65 : Cond.fieldLink RX6 65 RX6 "parent" "[I" ∈ wsX6_does := by decide +kernel
theorem lk_X6_does_68 : Cond.fieldLink RX6 68 RX6 "label" "[I" ∈ wsX6_does := by decide +kernel
theorem lk_X6_does_71 : Cond.fieldLink RX6 71 RX6 "its" "[I" ∈ wsX6_does := by decide +kernel
theorem lk_X6_does_74 : Cond.fieldLink RX6 74 RX6 "value" "[I" ∈ wsX6_does := by decide +kernel
theorem cw_X6_does_X6_allowed_103 {p : Program} {s : State} {m : MethodId} {args : Array Value} {meth : Method} {c : Code} {D : va_G} {tys : List (ClassId × FieldType)} {R : Room} (C : XC p R s m args meth c cX6_does 4 none RX6 wsX6_does D tys) : CallW rm_X6_does s args RX6 RX6 103 yX6_allowed cX6_allowed 3 (some .boolean) wsX6_allowed rm_X6_allowed 0 0 2 := cwV 2 C.2.2.2.2.1 gX6_does_X6_allowed rfl rfl rfl (by decide +kernel) ⟨Nat.le_of_ble_eq_true rfl, Nat.le_of_ble_eq_true rfl⟩
theorem cw_X6_does_X6_hangs_99 {p : Program} {s : State} {m : MethodId} {args : Array Value} {meth : Method} {c : Code} {D : va_G} {tys : List (ClassId × FieldType)} {R : Room} (C : XC p R s m args meth c cX6_does 4 none RX6 wsX6_does D tys) : CallW rm_X6_does s args RX6 RX6 99 yX6_hangs cX6_hangs 3 none wsX6_hangs rm_X6_hangs 0 0 2 := cwV 2 C.2.2.2.2.1 gX6_does_X6_hangs rfl rfl rfl (by decide +kernel) ⟨Nat.le_of_ble_eq_true rfl, Nat.le_of_ble_eq_true rfl⟩
theorem cw_X6_does_X6_isWithin_106 {p : Program} {s : State} {m : MethodId} {args : Array Value} {meth : Method} {c : Code} {D : va_G} {tys : List (ClassId × FieldType)} {R : Room} (C : XC p R s m args meth c cX6_does 4 none RX6 wsX6_does D tys) : CallW rm_X6_does s args RX6 RX6 106 yX6_isWithin cX6_isWithin 4 (some .boolean) wsX6_isWithin rm_X6_isWithin 0 0 2 := cwV 2 C.2.2.2.2.1 gX6_does_X6_isWithin rfl rfl rfl (by decide +kernel) ⟨Nat.le_of_ble_eq_true rfl, Nat.le_of_ble_eq_true rfl⟩
def X6_does_b247 (S : St) : Option (St) :=
  some S
set_option maxHeartbeats 4000000 in
set_option maxRecDepth 100000 in
theorem X_X6_does_b247 {p : Program} {l : Launch} {e : Env} {s : State} {m : MethodId} {args : Array Value} {below : List Frame} {meth : Method} {c : Code} {D : va_G} {cI cZ cJ : ClassId} {ad : Nat → Nat} {rest w0 : va_W} (C : XC p rm_X6_does s m args meth c cX6_does 4 none RX6 wsX6_does D (t3 cI cZ cJ)) {S : St} {r : St} (h : X6_does_b247 S = some r) : XW p l e rm_X6_does s m args below meth c D w0 4 (MQ below (QV D (t3 cI cZ cJ) w0 (wM cI cZ ad r rest) s.heap.size) args s 0 0 (va_A w0 s.heap.size)) (wM cI cZ ad S rest) 0 0 247 [] [] := by
  unfold X6_does_b247 at h
  obtain rfl := Option.some.inj h
  exact x_vret C dX6_does_247
def X6_does_b241 (S : St) (x2 x3 : Int32) : Option ((St × Int32 × Int32) ⊕ (St)) :=
  some (.inl (S, x2, x3 + 1))
set_option maxHeartbeats 4000000 in
set_option maxRecDepth 100000 in
theorem X_X6_does_b241 {p : Program} {l : Launch} {e : Env} {s : State} {m : MethodId} {args : Array Value} {below : List Frame} {meth : Method} {c : Code} {D : va_G} {cI cZ cJ : ClassId} {ad : Nat → Nat} {rest w0 : va_W} (C : XC p rm_X6_does s m args meth c cX6_does 4 none RX6 wsX6_does D (t3 cI cZ cJ)) {S : St} {x2 x3 : Int32} {z : (St × Int32 × Int32) ⊕ (St)} {r : St} (h : X6_does_b241 S x2 x3 = some z) (hk : ∀ a' : (St × Int32 × Int32), z = .inl a' → XW p l e rm_X6_does s m args below meth c D w0 4 (MQ below (QV D (t3 cI cZ cJ) w0 (wM cI cZ ad r rest) s.heap.size) args s 0 0 (va_A w0 s.heap.size)) (wM cI cZ ad a'.1 rest) 0 0 210 [(0, .ref (ad 0)), (2, .int a'.2.1), (3, .int a'.2.2)] []) (hr : ∀ r', z = .inr r' → r' = r) : XW p l e rm_X6_does s m args below meth c D w0 4 (MQ below (QV D (t3 cI cZ cJ) w0 (wM cI cZ ad r rest) s.heap.size) args s 0 0 (va_A w0 s.heap.size)) (wM cI cZ ad S rest) 0 0 241 [(0, .ref (ad 0)), (2, .int x2), (3, .int x3)] [] := by
  unfold X6_does_b241 at h
  refine x_iinc C (v := x3 + 1) (lv' := [(0, .ref (ad 0)), (2, .int x2), (3, .int (x3 + 1))]) 2 dX6_does_241 rfl rfl (by decide) rfl ?_
  refine x_goto C (t := 210) dX6_does_244 (by decide) ?_
  exact hk _ (Option.some.inj h).symm
def X6_does_H210 (S : St) (x2 x3 : Int32) : Option ((St × Int32 × Int32) ⊕ (St)) :=
  if 42 ≤ x3 then (exI (X6_does_b247 S)) else (if inB x3 42 then (if (S 18 x3.toNatClampNeg) = 0 then (X6_does_b241 S x2 x3) else (if inB x3 42 then (if (S 19 x3.toNatClampNeg) = x2 then ((X6_hangs S x3 1).bind fun S238 => X6_does_b241 S238 x2 x3) else (X6_does_b241 S x2 x3)) else none)) else none)
set_option maxHeartbeats 4000000 in
set_option maxRecDepth 100000 in
theorem X_X6_does_H210 {p : Program} {l : Launch} {e : Env} {s : State} {m : MethodId} {args : Array Value} {below : List Frame} {meth : Method} {c : Code} {D : va_G} {cI cZ cJ : ClassId} {ad : Nat → Nat} {rest w0 : va_W} (C : XC p rm_X6_does s m args meth c cX6_does 4 none RX6 wsX6_does D (t3 cI cZ cJ)) {S : St} {x2 x3 : Int32} {z : (St × Int32 × Int32) ⊕ (St)} {r : St} (h : X6_does_H210 S x2 x3 = some z) (hk : ∀ a' : (St × Int32 × Int32), z = .inl a' → XW p l e rm_X6_does s m args below meth c D w0 4 (MQ below (QV D (t3 cI cZ cJ) w0 (wM cI cZ ad r rest) s.heap.size) args s 0 0 (va_A w0 s.heap.size)) (wM cI cZ ad a'.1 rest) 0 0 210 [(0, .ref (ad 0)), (2, .int a'.2.1), (3, .int a'.2.2)] []) (hr : ∀ r', z = .inr r' → r' = r) : XW p l e rm_X6_does s m args below meth c D w0 4 (MQ below (QV D (t3 cI cZ cJ) w0 (wM cI cZ ad r rest) s.heap.size) args s 0 0 (va_A w0 s.heap.size)) (wM cI cZ ad S rest) 0 0 210 [(0, .ref (ad 0)), (2, .int x2), (3, .int x3)] [] := by
  unfold X6_does_H210 at h
  refine x_iload_n C 2 dX6_does_210 rfl ?_
  refine x_bipush C (v := 42) dX6_does_211 (by decide) ?_
  refine x_icmp_ge C (t := 247) dX6_does_213 (by decide) (fun c213 => ?_) (fun c213 => ?_)
  · replace h := (if_pos c213).symm.trans h
    refine x_locals (lv' := []) [] rfl ?_
    obtain ⟨r1, h1, h2⟩ := exI_some h
    obtain rfl := hr r1 h2
    exact X_X6_does_b247 C h1
  · replace h := (if_neg c213).symm.trans h
    refine x_aload_n C 0 dX6_does_216 rfl ?_
    refine x_get C (R' := RX6) (T := TX6) (N := 26) (ci := 6) 0 19 rfl rfl (by decide) rfl rfl hi_X6_does_6 lk_X6_does_62 dX6_does_217 ?_
    refine x_iload_n C 2 dX6_does_220 rfl ?_
    obtain ⟨g221, h⟩ := gdB h
    refine x_zald C 18 rfl g221 dX6_does_221 ?_
    refine x_if_eq C (t := 241) dX6_does_222 (by decide) (fun c222 => ?_) (fun c222 => ?_)
    · replace h := (if_pos c222).symm.trans h
      exact X_X6_does_b241 C h hk hr
    · replace h := (if_neg c222).symm.trans h
      refine x_aload_n C 0 dX6_does_225 rfl ?_
      refine x_get C (R' := RX6) (T := TX6) (N := 26) (ci := 6) 0 20 rfl rfl (by decide) rfl rfl hi_X6_does_6 lk_X6_does_65 dX6_does_226 ?_
      refine x_iload_n C 2 dX6_does_229 rfl ?_
      obtain ⟨g230, h⟩ := gdB h
      refine x_iald C 19 rfl g230 dX6_does_230 ?_
      refine x_iload_n C 1 dX6_does_231 rfl ?_
      refine x_icmp_ne C (t := 241) dX6_does_232 (by decide) (fun c232 => ?_) (fun c232 => ?_)
      · replace h := (if_neg c232).symm.trans h
        exact X_X6_does_b241 C h hk hr
      · replace h := (if_pos c232).symm.trans h
        refine x_aload_n C 0 dX6_does_235 rfl ?_
        refine x_iload_n C 2 dX6_does_236 rfl ?_
        refine x_iconst C (v := 1) dX6_does_237 (by decide) ?_
        obtain ⟨S238, hg238, h⟩ := ob h
        refine x_cv0 (x_runV C (As := [.int x3, .int 1]) (rest := []) (c_X6_hangs hg238) (cw_X6_does_X6_hangs_99 C) 0 rfl rfl rfl (Nat.le_of_ble_eq_true rfl) dX6_does_238 ⟨Nat.zero_le _, Nat.zero_le _⟩) ?_
        exact X_X6_does_b241 C h hk hr
def X6_does_L210 (S : St) (x2 x3 : Int32) : Option (St) := wloop (fun a' : (St × Int32 × Int32) => X6_does_H210 a'.1 a'.2.1 a'.2.2) 1000 (S, x2, x3)
set_option maxHeartbeats 4000000 in
set_option maxRecDepth 100000 in
theorem X_X6_does_L210 {p : Program} {l : Launch} {e : Env} {s : State} {m : MethodId} {args : Array Value} {below : List Frame} {meth : Method} {c : Code} {D : va_G} {cI cZ cJ : ClassId} {ad : Nat → Nat} {rest w0 : va_W} (C : XC p rm_X6_does s m args meth c cX6_does 4 none RX6 wsX6_does D (t3 cI cZ cJ)) {S : St} {x2 x3 : Int32} {r : St} (h : X6_does_L210 S x2 x3 = some r) : XW p l e rm_X6_does s m args below meth c D w0 4 (MQ below (QV D (t3 cI cZ cJ) w0 (wM cI cZ ad r rest) s.heap.size) args s 0 0 (va_A w0 s.heap.size)) (wM cI cZ ad S rest) 0 0 210 [(0, .ref (ad 0)), (2, .int x2), (3, .int x3)] [] :=
  wloop_met (P := (fun a' : (St × Int32 × Int32) => XW p l e rm_X6_does s m args below meth c D w0 4 (MQ below (QV D (t3 cI cZ cJ) w0 (wM cI cZ ad r rest) s.heap.size) args s 0 0 (va_A w0 s.heap.size)) (wM cI cZ ad a'.1 rest) 0 0 210 [(0, .ref (ad 0)), (2, .int a'.2.1), (3, .int a'.2.2)] [])) (fun _ _ hz hk hr => X_X6_does_H210 C hz hk hr) 1000 (S, x2, x3) h
def X6_does_b208 (S : St) (x2 : Int32) : Option (St) :=
  X6_does_L210 S x2 0
set_option maxHeartbeats 4000000 in
set_option maxRecDepth 100000 in
theorem X_X6_does_b208 {p : Program} {l : Launch} {e : Env} {s : State} {m : MethodId} {args : Array Value} {below : List Frame} {meth : Method} {c : Code} {D : va_G} {cI cZ cJ : ClassId} {ad : Nat → Nat} {rest w0 : va_W} (C : XC p rm_X6_does s m args meth c cX6_does 4 none RX6 wsX6_does D (t3 cI cZ cJ)) {S : St} {x2 : Int32} {r : St} (h : X6_does_b208 S x2 = some r) : XW p l e rm_X6_does s m args below meth c D w0 4 (MQ below (QV D (t3 cI cZ cJ) w0 (wM cI cZ ad r rest) s.heap.size) args s 0 0 (va_A w0 s.heap.size)) (wM cI cZ ad S rest) 0 0 208 [(0, .ref (ad 0)), (2, .int x2)] [] := by
  unfold X6_does_b208 at h
  refine x_iconst C (v := 0) dX6_does_208 (by decide) ?_
  refine x_istore_n C (lv' := [(0, .ref (ad 0)), (2, .int x2), (3, .int 0)]) dX6_does_209 (by decide) rfl ?_
  exact X_X6_does_L210 C h
def X6_does_b182 (S : St) (x1 x2 : Int32) : Option (St) :=
  if inB x1 40 then (if (S 3 x1.toNatClampNeg) = 3 then (if inB x2 42 then (if (S 18 x2.toNatClampNeg) = 0 then (X6_does_b247 S) else (if inB x2 42 then (X6_does_b208 (up S 18 (upd (S 18) x2.toNatClampNeg (vp_nar .boolean 0))) x2) else none)) else none) else (X6_does_b247 S)) else none
set_option maxHeartbeats 4000000 in
set_option maxRecDepth 100000 in
theorem X_X6_does_b182 {p : Program} {l : Launch} {e : Env} {s : State} {m : MethodId} {args : Array Value} {below : List Frame} {meth : Method} {c : Code} {D : va_G} {cI cZ cJ : ClassId} {ad : Nat → Nat} {rest w0 : va_W} (C : XC p rm_X6_does s m args meth c cX6_does 4 none RX6 wsX6_does D (t3 cI cZ cJ)) {S : St} {x1 x2 : Int32} {r : St} (h : X6_does_b182 S x1 x2 = some r) : XW p l e rm_X6_does s m args below meth c D w0 4 (MQ below (QV D (t3 cI cZ cJ) w0 (wM cI cZ ad r rest) s.heap.size) args s 0 0 (va_A w0 s.heap.size)) (wM cI cZ ad S rest) 0 0 182 [(0, .ref (ad 0)), (1, .int x1), (2, .int x2)] [] := by
  unfold X6_does_b182 at h
  refine x_aload_n C 0 dX6_does_182 rfl ?_
  refine x_get C (R' := RX6) (T := TX6) (N := 26) (ci := 6) 0 3 rfl rfl (by decide) rfl rfl hi_X6_does_6 lk_X6_does_16 dX6_does_183 ?_
  refine x_iload_n C 1 dX6_does_186 rfl ?_
  obtain ⟨g187, h⟩ := gdB h
  refine x_iald C 3 rfl g187 dX6_does_187 ?_
  refine x_iconst C (v := 3) dX6_does_188 (by decide) ?_
  refine x_icmp_ne C (t := 247) dX6_does_189 (by decide) (fun c189 => ?_) (fun c189 => ?_)
  · replace h := (if_neg c189).symm.trans h
    refine x_locals (lv' := []) [] rfl ?_
    exact X_X6_does_b247 C h
  · replace h := (if_pos c189).symm.trans h
    refine x_aload_n C 0 dX6_does_192 rfl ?_
    refine x_get C (R' := RX6) (T := TX6) (N := 26) (ci := 6) 0 19 rfl rfl (by decide) rfl rfl hi_X6_does_6 lk_X6_does_62 dX6_does_193 ?_
    refine x_iload_n C 2 dX6_does_196 rfl ?_
    obtain ⟨g197, h⟩ := gdB h
    refine x_zald C 18 rfl g197 dX6_does_197 ?_
    refine x_if_eq C (t := 247) dX6_does_198 (by decide) (fun c198 => ?_) (fun c198 => ?_)
    · replace h := (if_pos c198).symm.trans h
      refine x_locals (lv' := []) [] rfl ?_
      exact X_X6_does_b247 C h
    · replace h := (if_neg c198).symm.trans h
      refine x_aload_n C 0 dX6_does_201 rfl ?_
      refine x_get C (R' := RX6) (T := TX6) (N := 26) (ci := 6) 0 19 rfl rfl (by decide) rfl rfl hi_X6_does_6 lk_X6_does_62 dX6_does_202 ?_
      refine x_iload_n C 2 dX6_does_205 rfl ?_
      refine x_iconst C (v := 0) dX6_does_206 (by decide) ?_
      obtain ⟨g207, h⟩ := gdB h
      refine x_zast C 18 rfl g207 dX6_does_207 (wM_s18 cI cZ ad S rest (upd (S 18) x2.toNatClampNeg (vp_nar .boolean 0))) ?_
      refine x_locals (lv' := [(0, .ref (ad 0)), (2, .int x2)]) [0, 2] rfl ?_
      exact X_X6_does_b208 C h
def X6_does_b171 (S : St) (x1 x2 : Int32) : Option (St) :=
  if inB x1 40 then ((X6_hangs S x2 (S 5 x1.toNatClampNeg)).bind fun S179 => X6_does_b182 S179 x1 x2) else none
set_option maxHeartbeats 4000000 in
set_option maxRecDepth 100000 in
theorem X_X6_does_b171 {p : Program} {l : Launch} {e : Env} {s : State} {m : MethodId} {args : Array Value} {below : List Frame} {meth : Method} {c : Code} {D : va_G} {cI cZ cJ : ClassId} {ad : Nat → Nat} {rest w0 : va_W} (C : XC p rm_X6_does s m args meth c cX6_does 4 none RX6 wsX6_does D (t3 cI cZ cJ)) {S : St} {x1 x2 : Int32} {r : St} (h : X6_does_b171 S x1 x2 = some r) : XW p l e rm_X6_does s m args below meth c D w0 4 (MQ below (QV D (t3 cI cZ cJ) w0 (wM cI cZ ad r rest) s.heap.size) args s 0 0 (va_A w0 s.heap.size)) (wM cI cZ ad S rest) 0 0 171 [(0, .ref (ad 0)), (1, .int x1), (2, .int x2)] [] := by
  unfold X6_does_b171 at h
  refine x_aload_n C 0 dX6_does_171 rfl ?_
  refine x_iload_n C 2 dX6_does_172 rfl ?_
  refine x_aload_n C 0 dX6_does_173 rfl ?_
  refine x_get C (R' := RX6) (T := TX6) (N := 26) (ci := 6) 0 5 rfl rfl (by decide) rfl rfl hi_X6_does_6 lk_X6_does_22 dX6_does_174 ?_
  refine x_iload_n C 1 dX6_does_177 rfl ?_
  obtain ⟨g178, h⟩ := gdB h
  refine x_iald C 5 rfl g178 dX6_does_178 ?_
  obtain ⟨S179, hg179, h⟩ := ob h
  refine x_cv0 (x_runV C (As := [.int x2, .int (S 5 x1.toNatClampNeg)]) (rest := []) (c_X6_hangs hg179) (cw_X6_does_X6_hangs_99 C) 0 rfl rfl rfl (Nat.le_of_ble_eq_true rfl) dX6_does_179 ⟨Nat.zero_le _, Nat.zero_le _⟩) ?_
  exact X_X6_does_b182 C h
def X6_does_b159 (S : St) (x1 x2 : Int32) : Option (St) :=
  if inB x1 40 then (if inB x2 42 then (X6_does_b171 (up S 20 (upd (S 20) x2.toNatClampNeg (S 6 x1.toNatClampNeg))) x1 x2) else none) else none
set_option maxHeartbeats 4000000 in
set_option maxRecDepth 100000 in
theorem X_X6_does_b159 {p : Program} {l : Launch} {e : Env} {s : State} {m : MethodId} {args : Array Value} {below : List Frame} {meth : Method} {c : Code} {D : va_G} {cI cZ cJ : ClassId} {ad : Nat → Nat} {rest w0 : va_W} (C : XC p rm_X6_does s m args meth c cX6_does 4 none RX6 wsX6_does D (t3 cI cZ cJ)) {S : St} {x1 x2 : Int32} {r : St} (h : X6_does_b159 S x1 x2 = some r) : XW p l e rm_X6_does s m args below meth c D w0 4 (MQ below (QV D (t3 cI cZ cJ) w0 (wM cI cZ ad r rest) s.heap.size) args s 0 0 (va_A w0 s.heap.size)) (wM cI cZ ad S rest) 0 0 159 [(0, .ref (ad 0)), (1, .int x1), (2, .int x2)] [] := by
  unfold X6_does_b159 at h
  refine x_aload_n C 0 dX6_does_159 rfl ?_
  refine x_get C (R' := RX6) (T := TX6) (N := 26) (ci := 6) 0 21 rfl rfl (by decide) rfl rfl hi_X6_does_6 lk_X6_does_68 dX6_does_160 ?_
  refine x_iload_n C 2 dX6_does_163 rfl ?_
  refine x_aload_n C 0 dX6_does_164 rfl ?_
  refine x_get C (R' := RX6) (T := TX6) (N := 26) (ci := 6) 0 6 rfl rfl (by decide) rfl rfl hi_X6_does_6 lk_X6_does_25 dX6_does_165 ?_
  refine x_iload_n C 1 dX6_does_168 rfl ?_
  obtain ⟨g169, h⟩ := gdB h
  refine x_iald C 6 rfl g169 dX6_does_169 ?_
  obtain ⟨g170, h⟩ := gdB h
  refine x_iast C 20 rfl g170 dX6_does_170 (wM_s20 cI cZ ad S rest (upd (S 20) x2.toNatClampNeg (S 6 x1.toNatClampNeg))) ?_
  exact X_X6_does_b171 C h
def X6_does_b112 (S : St) (x1 x2 : Int32) : Option (St) :=
  if inB x1 40 then (if (S 3 x1.toNatClampNeg) = 2 then (if inB x2 42 then (if (S 18 x2.toNatClampNeg) = 0 then (X6_does_b182 S x1 x2) else (if inB x1 40 then (if inB (S 5 x1.toNatClampNeg) 42 then (if (S 18 (S 5 x1.toNatClampNeg).toNatClampNeg) = 0 then (X6_does_b159 S x1 x2) else (if inB x1 40 then ((X6_isWithin S (S 5 x1.toNatClampNeg) x2).bind fun v153 => if v153 = 0 then (X6_does_b159 S x1 x2) else (X6_does_b182 S x1 x2)) else none)) else none) else none)) else none) else (X6_does_b182 S x1 x2)) else none
set_option maxHeartbeats 4000000 in
set_option maxRecDepth 100000 in
theorem X_X6_does_b112 {p : Program} {l : Launch} {e : Env} {s : State} {m : MethodId} {args : Array Value} {below : List Frame} {meth : Method} {c : Code} {D : va_G} {cI cZ cJ : ClassId} {ad : Nat → Nat} {rest w0 : va_W} (C : XC p rm_X6_does s m args meth c cX6_does 4 none RX6 wsX6_does D (t3 cI cZ cJ)) {S : St} {x1 x2 : Int32} {r : St} (h : X6_does_b112 S x1 x2 = some r) : XW p l e rm_X6_does s m args below meth c D w0 4 (MQ below (QV D (t3 cI cZ cJ) w0 (wM cI cZ ad r rest) s.heap.size) args s 0 0 (va_A w0 s.heap.size)) (wM cI cZ ad S rest) 0 0 112 [(0, .ref (ad 0)), (1, .int x1), (2, .int x2)] [] := by
  unfold X6_does_b112 at h
  refine x_aload_n C 0 dX6_does_112 rfl ?_
  refine x_get C (R' := RX6) (T := TX6) (N := 26) (ci := 6) 0 3 rfl rfl (by decide) rfl rfl hi_X6_does_6 lk_X6_does_16 dX6_does_113 ?_
  refine x_iload_n C 1 dX6_does_116 rfl ?_
  obtain ⟨g117, h⟩ := gdB h
  refine x_iald C 3 rfl g117 dX6_does_117 ?_
  refine x_iconst C (v := 2) dX6_does_118 (by decide) ?_
  refine x_icmp_ne C (t := 182) dX6_does_119 (by decide) (fun c119 => ?_) (fun c119 => ?_)
  · replace h := (if_neg c119).symm.trans h
    exact X_X6_does_b182 C h
  · replace h := (if_pos c119).symm.trans h
    refine x_aload_n C 0 dX6_does_122 rfl ?_
    refine x_get C (R' := RX6) (T := TX6) (N := 26) (ci := 6) 0 19 rfl rfl (by decide) rfl rfl hi_X6_does_6 lk_X6_does_62 dX6_does_123 ?_
    refine x_iload_n C 2 dX6_does_126 rfl ?_
    obtain ⟨g127, h⟩ := gdB h
    refine x_zald C 18 rfl g127 dX6_does_127 ?_
    refine x_if_eq C (t := 182) dX6_does_128 (by decide) (fun c128 => ?_) (fun c128 => ?_)
    · replace h := (if_pos c128).symm.trans h
      exact X_X6_does_b182 C h
    · replace h := (if_neg c128).symm.trans h
      refine x_aload_n C 0 dX6_does_131 rfl ?_
      refine x_get C (R' := RX6) (T := TX6) (N := 26) (ci := 6) 0 19 rfl rfl (by decide) rfl rfl hi_X6_does_6 lk_X6_does_62 dX6_does_132 ?_
      refine x_aload_n C 0 dX6_does_135 rfl ?_
      refine x_get C (R' := RX6) (T := TX6) (N := 26) (ci := 6) 0 5 rfl rfl (by decide) rfl rfl hi_X6_does_6 lk_X6_does_22 dX6_does_136 ?_
      refine x_iload_n C 1 dX6_does_139 rfl ?_
      obtain ⟨g140, h⟩ := gdB h
      refine x_iald C 5 rfl g140 dX6_does_140 ?_
      obtain ⟨g141, h⟩ := gdB h
      refine x_zald C 18 rfl g141 dX6_does_141 ?_
      refine x_if_eq C (t := 159) dX6_does_142 (by decide) (fun c142 => ?_) (fun c142 => ?_)
      · replace h := (if_pos c142).symm.trans h
        exact X_X6_does_b159 C h
      · replace h := (if_neg c142).symm.trans h
        refine x_aload_n C 0 dX6_does_145 rfl ?_
        refine x_aload_n C 0 dX6_does_146 rfl ?_
        refine x_get C (R' := RX6) (T := TX6) (N := 26) (ci := 6) 0 5 rfl rfl (by decide) rfl rfl hi_X6_does_6 lk_X6_does_22 dX6_does_147 ?_
        refine x_iload_n C 1 dX6_does_150 rfl ?_
        obtain ⟨g151, h⟩ := gdB h
        refine x_iald C 5 rfl g151 dX6_does_151 ?_
        refine x_iload_n C 2 dX6_does_152 rfl ?_
        obtain ⟨v153, hg153, h⟩ := ob h
        refine x_ci0 (x_runV C (As := [.int (S 5 x1.toNatClampNeg), .int x2]) (rest := []) (c_X6_isWithin hg153) (cw_X6_does_X6_isWithin_106 C) 0 rfl rfl rfl (Nat.le_of_ble_eq_true rfl) dX6_does_153 ⟨Nat.zero_le _, Nat.zero_le _⟩) ?_
        refine x_if_ne C (t := 182) dX6_does_156 (by decide) (fun c156 => ?_) (fun c156 => ?_)
        · replace h := (if_neg c156).symm.trans h
          exact X_X6_does_b182 C h
        · replace h := (if_pos c156).symm.trans h
          exact X_X6_does_b159 C h
def X6_does_b58 (S : St) (x1 x2 : Int32) : Option (St) :=
  if inB x1 40 then (if (S 3 x1.toNatClampNeg) = 1 then (if inB x2 42 then (if (S 18 x2.toNatClampNeg) = 0 then (X6_does_b112 S x1 x2) else (if inB x1 40 then ((X6_allowed S x2 (S 7 x1.toNatClampNeg)).bind fun v85 => if v85 = 0 then (X6_does_b112 S x1 x2) else (if inB x1 40 then (if inB x1 40 then (if inB ((4 * x2) + (S 7 x1.toNatClampNeg)) 168 then (X6_does_b112 (up S 22 (upd (S 22) ((4 * x2) + (S 7 x1.toNatClampNeg)).toNatClampNeg (S 8 x1.toNatClampNeg))) x1 x2) else none) else none) else none)) else none)) else none) else (X6_does_b112 S x1 x2)) else none
set_option maxHeartbeats 4000000 in
set_option maxRecDepth 100000 in
theorem X_X6_does_b58 {p : Program} {l : Launch} {e : Env} {s : State} {m : MethodId} {args : Array Value} {below : List Frame} {meth : Method} {c : Code} {D : va_G} {cI cZ cJ : ClassId} {ad : Nat → Nat} {rest w0 : va_W} (C : XC p rm_X6_does s m args meth c cX6_does 4 none RX6 wsX6_does D (t3 cI cZ cJ)) {S : St} {x1 x2 : Int32} {r : St} (h : X6_does_b58 S x1 x2 = some r) : XW p l e rm_X6_does s m args below meth c D w0 4 (MQ below (QV D (t3 cI cZ cJ) w0 (wM cI cZ ad r rest) s.heap.size) args s 0 0 (va_A w0 s.heap.size)) (wM cI cZ ad S rest) 0 0 58 [(0, .ref (ad 0)), (1, .int x1), (2, .int x2)] [] := by
  unfold X6_does_b58 at h
  refine x_aload_n C 0 dX6_does_58 rfl ?_
  refine x_get C (R' := RX6) (T := TX6) (N := 26) (ci := 6) 0 3 rfl rfl (by decide) rfl rfl hi_X6_does_6 lk_X6_does_16 dX6_does_59 ?_
  refine x_iload_n C 1 dX6_does_62 rfl ?_
  obtain ⟨g63, h⟩ := gdB h
  refine x_iald C 3 rfl g63 dX6_does_63 ?_
  refine x_iconst C (v := 1) dX6_does_64 (by decide) ?_
  refine x_icmp_ne C (t := 112) dX6_does_65 (by decide) (fun c65 => ?_) (fun c65 => ?_)
  · replace h := (if_neg c65).symm.trans h
    exact X_X6_does_b112 C h
  · replace h := (if_pos c65).symm.trans h
    refine x_aload_n C 0 dX6_does_68 rfl ?_
    refine x_get C (R' := RX6) (T := TX6) (N := 26) (ci := 6) 0 19 rfl rfl (by decide) rfl rfl hi_X6_does_6 lk_X6_does_62 dX6_does_69 ?_
    refine x_iload_n C 2 dX6_does_72 rfl ?_
    obtain ⟨g73, h⟩ := gdB h
    refine x_zald C 18 rfl g73 dX6_does_73 ?_
    refine x_if_eq C (t := 112) dX6_does_74 (by decide) (fun c74 => ?_) (fun c74 => ?_)
    · replace h := (if_pos c74).symm.trans h
      exact X_X6_does_b112 C h
    · replace h := (if_neg c74).symm.trans h
      refine x_aload_n C 0 dX6_does_77 rfl ?_
      refine x_iload_n C 2 dX6_does_78 rfl ?_
      refine x_aload_n C 0 dX6_does_79 rfl ?_
      refine x_get C (R' := RX6) (T := TX6) (N := 26) (ci := 6) 0 7 rfl rfl (by decide) rfl rfl hi_X6_does_6 lk_X6_does_28 dX6_does_80 ?_
      refine x_iload_n C 1 dX6_does_83 rfl ?_
      obtain ⟨g84, h⟩ := gdB h
      refine x_iald C 7 rfl g84 dX6_does_84 ?_
      obtain ⟨v85, hg85, h⟩ := ob h
      refine x_ci0 (x_runV C (As := [.int x2, .int (S 7 x1.toNatClampNeg)]) (rest := []) (c_X6_allowed hg85) (cw_X6_does_X6_allowed_103 C) 0 rfl rfl rfl (Nat.le_of_ble_eq_true rfl) dX6_does_85 ⟨Nat.zero_le _, Nat.zero_le _⟩) ?_
      refine x_if_eq C (t := 112) dX6_does_88 (by decide) (fun c88 => ?_) (fun c88 => ?_)
      · replace h := (if_pos c88).symm.trans h
        exact X_X6_does_b112 C h
      · replace h := (if_neg c88).symm.trans h
        refine x_aload_n C 0 dX6_does_91 rfl ?_
        refine x_get C (R' := RX6) (T := TX6) (N := 26) (ci := 6) 0 23 rfl rfl (by decide) rfl rfl hi_X6_does_6 lk_X6_does_74 dX6_does_92 ?_
        refine x_iconst C (v := 4) dX6_does_95 (by decide) ?_
        refine x_iload_n C 2 dX6_does_96 rfl ?_
        refine x_imul C dX6_does_97 ?_
        refine x_aload_n C 0 dX6_does_98 rfl ?_
        refine x_get C (R' := RX6) (T := TX6) (N := 26) (ci := 6) 0 7 rfl rfl (by decide) rfl rfl hi_X6_does_6 lk_X6_does_28 dX6_does_99 ?_
        refine x_iload_n C 1 dX6_does_102 rfl ?_
        obtain ⟨g103, h⟩ := gdB h
        refine x_iald C 7 rfl g103 dX6_does_103 ?_
        refine x_iadd C dX6_does_104 ?_
        refine x_aload_n C 0 dX6_does_105 rfl ?_
        refine x_get C (R' := RX6) (T := TX6) (N := 26) (ci := 6) 0 8 rfl rfl (by decide) rfl rfl hi_X6_does_6 lk_X6_does_31 dX6_does_106 ?_
        refine x_iload_n C 1 dX6_does_109 rfl ?_
        obtain ⟨g110, h⟩ := gdB h
        refine x_iald C 8 rfl g110 dX6_does_110 ?_
        obtain ⟨g111, h⟩ := gdB h
        refine x_iast C 22 rfl g111 dX6_does_111 (wM_s22 cI cZ ad S rest (upd (S 22) ((4 * x2) + (S 7 x1.toNatClampNeg)).toNatClampNeg (S 8 x1.toNatClampNeg))) ?_
        exact X_X6_does_b112 C h
def X6_does_b47 (S : St) (x1 x2 : Int32) : Option (St) :=
  if inB x1 40 then ((X6_hangs S x2 (S 5 x1.toNatClampNeg)).bind fun S55 => X6_does_b58 S55 x1 x2) else none
set_option maxHeartbeats 4000000 in
set_option maxRecDepth 100000 in
theorem X_X6_does_b47 {p : Program} {l : Launch} {e : Env} {s : State} {m : MethodId} {args : Array Value} {below : List Frame} {meth : Method} {c : Code} {D : va_G} {cI cZ cJ : ClassId} {ad : Nat → Nat} {rest w0 : va_W} (C : XC p rm_X6_does s m args meth c cX6_does 4 none RX6 wsX6_does D (t3 cI cZ cJ)) {S : St} {x1 x2 : Int32} {r : St} (h : X6_does_b47 S x1 x2 = some r) : XW p l e rm_X6_does s m args below meth c D w0 4 (MQ below (QV D (t3 cI cZ cJ) w0 (wM cI cZ ad r rest) s.heap.size) args s 0 0 (va_A w0 s.heap.size)) (wM cI cZ ad S rest) 0 0 47 [(0, .ref (ad 0)), (1, .int x1), (2, .int x2)] [] := by
  unfold X6_does_b47 at h
  refine x_aload_n C 0 dX6_does_47 rfl ?_
  refine x_iload_n C 2 dX6_does_48 rfl ?_
  refine x_aload_n C 0 dX6_does_49 rfl ?_
  refine x_get C (R' := RX6) (T := TX6) (N := 26) (ci := 6) 0 5 rfl rfl (by decide) rfl rfl hi_X6_does_6 lk_X6_does_22 dX6_does_50 ?_
  refine x_iload_n C 1 dX6_does_53 rfl ?_
  obtain ⟨g54, h⟩ := gdB h
  refine x_iald C 5 rfl g54 dX6_does_54 ?_
  obtain ⟨S55, hg55, h⟩ := ob h
  refine x_cv0 (x_runV C (As := [.int x2, .int (S 5 x1.toNatClampNeg)]) (rest := []) (c_X6_hangs hg55) (cw_X6_does_X6_hangs_99 C) 0 rfl rfl rfl (Nat.le_of_ble_eq_true rfl) dX6_does_55 ⟨Nat.zero_le _, Nat.zero_le _⟩) ?_
  exact X_X6_does_b58 C h
def X6_does_b35 (S : St) (x1 x2 : Int32) : Option (St) :=
  if inB x1 40 then (if inB x2 42 then (X6_does_b47 (up S 20 (upd (S 20) x2.toNatClampNeg (S 6 x1.toNatClampNeg))) x1 x2) else none) else none
set_option maxHeartbeats 4000000 in
set_option maxRecDepth 100000 in
theorem X_X6_does_b35 {p : Program} {l : Launch} {e : Env} {s : State} {m : MethodId} {args : Array Value} {below : List Frame} {meth : Method} {c : Code} {D : va_G} {cI cZ cJ : ClassId} {ad : Nat → Nat} {rest w0 : va_W} (C : XC p rm_X6_does s m args meth c cX6_does 4 none RX6 wsX6_does D (t3 cI cZ cJ)) {S : St} {x1 x2 : Int32} {r : St} (h : X6_does_b35 S x1 x2 = some r) : XW p l e rm_X6_does s m args below meth c D w0 4 (MQ below (QV D (t3 cI cZ cJ) w0 (wM cI cZ ad r rest) s.heap.size) args s 0 0 (va_A w0 s.heap.size)) (wM cI cZ ad S rest) 0 0 35 [(0, .ref (ad 0)), (1, .int x1), (2, .int x2)] [] := by
  unfold X6_does_b35 at h
  refine x_aload_n C 0 dX6_does_35 rfl ?_
  refine x_get C (R' := RX6) (T := TX6) (N := 26) (ci := 6) 0 21 rfl rfl (by decide) rfl rfl hi_X6_does_6 lk_X6_does_68 dX6_does_36 ?_
  refine x_iload_n C 2 dX6_does_39 rfl ?_
  refine x_aload_n C 0 dX6_does_40 rfl ?_
  refine x_get C (R' := RX6) (T := TX6) (N := 26) (ci := 6) 0 6 rfl rfl (by decide) rfl rfl hi_X6_does_6 lk_X6_does_25 dX6_does_41 ?_
  refine x_iload_n C 1 dX6_does_44 rfl ?_
  obtain ⟨g45, h⟩ := gdB h
  refine x_iald C 6 rfl g45 dX6_does_45 ?_
  obtain ⟨g46, h⟩ := gdB h
  refine x_iast C 20 rfl g46 dX6_does_46 (wM_s20 cI cZ ad S rest (upd (S 20) x2.toNatClampNeg (S 6 x1.toNatClampNeg))) ?_
  exact X_X6_does_b47 C h
def X6_does_b23 (S : St) (x1 x2 : Int32) : Option (St) :=
  if inB x1 40 then (if inB x2 42 then (X6_does_b35 (up S 21 (upd (S 21) x2.toNatClampNeg (S 7 x1.toNatClampNeg))) x1 x2) else none) else none
set_option maxHeartbeats 4000000 in
set_option maxRecDepth 100000 in
theorem X_X6_does_b23 {p : Program} {l : Launch} {e : Env} {s : State} {m : MethodId} {args : Array Value} {below : List Frame} {meth : Method} {c : Code} {D : va_G} {cI cZ cJ : ClassId} {ad : Nat → Nat} {rest w0 : va_W} (C : XC p rm_X6_does s m args meth c cX6_does 4 none RX6 wsX6_does D (t3 cI cZ cJ)) {S : St} {x1 x2 : Int32} {r : St} (h : X6_does_b23 S x1 x2 = some r) : XW p l e rm_X6_does s m args below meth c D w0 4 (MQ below (QV D (t3 cI cZ cJ) w0 (wM cI cZ ad r rest) s.heap.size) args s 0 0 (va_A w0 s.heap.size)) (wM cI cZ ad S rest) 0 0 23 [(0, .ref (ad 0)), (1, .int x1), (2, .int x2)] [] := by
  unfold X6_does_b23 at h
  refine x_aload_n C 0 dX6_does_23 rfl ?_
  refine x_get C (R' := RX6) (T := TX6) (N := 26) (ci := 6) 0 22 rfl rfl (by decide) rfl rfl hi_X6_does_6 lk_X6_does_71 dX6_does_24 ?_
  refine x_iload_n C 2 dX6_does_27 rfl ?_
  refine x_aload_n C 0 dX6_does_28 rfl ?_
  refine x_get C (R' := RX6) (T := TX6) (N := 26) (ci := 6) 0 7 rfl rfl (by decide) rfl rfl hi_X6_does_6 lk_X6_does_28 dX6_does_29 ?_
  refine x_iload_n C 1 dX6_does_32 rfl ?_
  obtain ⟨g33, h⟩ := gdB h
  refine x_iald C 7 rfl g33 dX6_does_33 ?_
  obtain ⟨g34, h⟩ := gdB h
  refine x_iast C 21 rfl g34 dX6_does_34 (wM_s21 cI cZ ad S rest (upd (S 21) x2.toNatClampNeg (S 7 x1.toNatClampNeg))) ?_
  exact X_X6_does_b35 C h
def X6_does (S : St) (x1 : Int32) : Option (St) :=
  if inB x1 40 then (if inB x1 40 then (if (S 3 x1.toNatClampNeg) = 0 then (if inB (S 4 x1.toNatClampNeg) 42 then (X6_does_b23 (up S 18 (upd (S 18) (S 4 x1.toNatClampNeg).toNatClampNeg (vp_nar .boolean 1))) x1 (S 4 x1.toNatClampNeg)) else none) else (X6_does_b58 S x1 (S 4 x1.toNatClampNeg))) else none) else none
set_option maxHeartbeats 4000000 in
set_option maxRecDepth 100000 in
theorem X_X6_does {p : Program} {l : Launch} {e : Env} {s : State} {m : MethodId} {args : Array Value} {below : List Frame} {meth : Method} {c : Code} {D : va_G} {cI cZ cJ : ClassId} {ad : Nat → Nat} {rest w0 : va_W} (C : XC p rm_X6_does s m args meth c cX6_does 4 none RX6 wsX6_does D (t3 cI cZ cJ)) {S : St} {x1 : Int32} {r : St} (h : X6_does S x1 = some r) : XW p l e rm_X6_does s m args below meth c D w0 4 (MQ below (QV D (t3 cI cZ cJ) w0 (wM cI cZ ad r rest) s.heap.size) args s 0 0 (va_A w0 s.heap.size)) (wM cI cZ ad S rest) 0 0 0 [(0, .ref (ad 0)), (1, .int x1)] [] := by
  unfold X6_does at h
  refine x_aload_n C 0 dX6_does_0 rfl ?_
  refine x_get C (R' := RX6) (T := TX6) (N := 26) (ci := 6) 0 4 rfl rfl (by decide) rfl rfl hi_X6_does_6 lk_X6_does_19 dX6_does_1 ?_
  refine x_iload_n C 1 dX6_does_4 rfl ?_
  obtain ⟨g5, h⟩ := gdB h
  refine x_iald C 4 rfl g5 dX6_does_5 ?_
  refine x_istore_n C (lv' := [(0, .ref (ad 0)), (1, .int x1), (2, .int (S 4 x1.toNatClampNeg))]) dX6_does_6 (by decide) rfl ?_
  refine x_aload_n C 0 dX6_does_7 rfl ?_
  refine x_get C (R' := RX6) (T := TX6) (N := 26) (ci := 6) 0 3 rfl rfl (by decide) rfl rfl hi_X6_does_6 lk_X6_does_16 dX6_does_8 ?_
  refine x_iload_n C 1 dX6_does_11 rfl ?_
  obtain ⟨g12, h⟩ := gdB h
  refine x_iald C 3 rfl g12 dX6_does_12 ?_
  refine x_if_ne C (t := 58) dX6_does_13 (by decide) (fun c13 => ?_) (fun c13 => ?_)
  · replace h := (if_neg c13).symm.trans h
    exact X_X6_does_b58 C h
  · replace h := (if_pos c13).symm.trans h
    refine x_aload_n C 0 dX6_does_16 rfl ?_
    refine x_get C (R' := RX6) (T := TX6) (N := 26) (ci := 6) 0 19 rfl rfl (by decide) rfl rfl hi_X6_does_6 lk_X6_does_62 dX6_does_17 ?_
    refine x_iload_n C 2 dX6_does_20 rfl ?_
    refine x_iconst C (v := 1) dX6_does_21 (by decide) ?_
    obtain ⟨g22, h⟩ := gdB h
    refine x_zast C 18 rfl g22 dX6_does_22 (wM_s18 cI cZ ad S rest (upd (S 18) (S 4 x1.toNatClampNeg).toNatClampNeg (vp_nar .boolean 1))) ?_
    exact X_X6_does_b23 C h
set_option maxRecDepth 100000 in
theorem c_X6_does {l : Launch} {D : va_G} {cI cZ cJ : ClassId} {ad : Nat → Nat} {S : St} {rest : va_W} {x1 : Int32} {r : St} (h : X6_does S x1 = some r) : ∀ sz, Met l yX6_does wsX6_does rm_X6_does (PC D (t3 cI cZ cJ) [.ref (ad 0), .int x1] (wM cI cZ ad S rest) sz) (QV D (t3 cI cZ cJ) (wM cI cZ ad S rest) (wM cI cZ ad r rest) sz) 0 0 (va_A (wM cI cZ ad S rest) sz) := by
  refine x_met (Qc := fun sz => QV D (t3 cI cZ cJ) (wM cI cZ ad S rest) (wM cI cZ ad r rest) sz) RX6 rfl (by decide) rfl (Nat.le_of_ble_eq_true rfl) (fun p e s m args below meth c C => ?_)
  exact X_X6_does C h
/-! EntryMastersModel.knows(II)Z -/
abbrev rm_X6_knows : Room := { frames := 0, cells := 0, slots := 0, locals := 0 }
theorem hi_X6_knows_6 : ∀ z ∈ u_ws RX6 TX6 26, z ∈ wsX6_knows := by decide +kernel
theorem lk_X6_knows_40 : Cond.fieldLink RX6 40 RX6 "known" "[I" ∈ wsX6_knows := by decide +kernel
def X6_knows_b19 (S : St) (s0 : Int32) : Option (Int32) :=
  if s0 &&& 1 = s0 then (some s0) else none
set_option maxHeartbeats 4000000 in
set_option maxRecDepth 100000 in
theorem X_X6_knows_b19 {p : Program} {l : Launch} {e : Env} {s : State} {m : MethodId} {args : Array Value} {below : List Frame} {meth : Method} {c : Code} {D : va_G} {cI cZ cJ : ClassId} {ad : Nat → Nat} {rest w0 : va_W} (C : XC p rm_X6_knows s m args meth c cX6_knows 3 (some .boolean) RX6 wsX6_knows D (t3 cI cZ cJ)) {S : St} {s0 : Int32} {r : Int32} (h : X6_knows_b19 S s0 = some r) : XW p l e rm_X6_knows s m args below meth c D w0 3 (MQ below (QI D (t3 cI cZ cJ) w0 (wM cI cZ ad S rest) s.heap.size r) args s 0 0 (va_A w0 s.heap.size)) (wM cI cZ ad S rest) 0 0 19 [] [.int s0] := by
  unfold X6_knows_b19 at h
  obtain ⟨g19, h⟩ := gd h
  obtain rfl := Option.some.inj h
  exact x_zret C g19 dX6_knows_19
def X6_knows (S : St) (x1 x2 : Int32) : Option (Int32) :=
  if inB x1 40 then (if (((S 11 x1.toNatClampNeg) >>> (x2 &&& 31)) &&& 1) = 1 then (X6_knows_b19 S 1) else (X6_knows_b19 S 0)) else none
set_option maxHeartbeats 4000000 in
set_option maxRecDepth 100000 in
theorem X_X6_knows {p : Program} {l : Launch} {e : Env} {s : State} {m : MethodId} {args : Array Value} {below : List Frame} {meth : Method} {c : Code} {D : va_G} {cI cZ cJ : ClassId} {ad : Nat → Nat} {rest w0 : va_W} (C : XC p rm_X6_knows s m args meth c cX6_knows 3 (some .boolean) RX6 wsX6_knows D (t3 cI cZ cJ)) {S : St} {x1 x2 : Int32} {r : Int32} (h : X6_knows S x1 x2 = some r) : XW p l e rm_X6_knows s m args below meth c D w0 3 (MQ below (QI D (t3 cI cZ cJ) w0 (wM cI cZ ad S rest) s.heap.size r) args s 0 0 (va_A w0 s.heap.size)) (wM cI cZ ad S rest) 0 0 0 [(0, .ref (ad 0)), (1, .int x1), (2, .int x2)] [] := by
  unfold X6_knows at h
  refine x_aload_n C 0 dX6_knows_0 rfl ?_
  refine x_get C (R' := RX6) (T := TX6) (N := 26) (ci := 6) 0 11 rfl rfl (by decide) rfl rfl hi_X6_knows_6 lk_X6_knows_40 dX6_knows_1 ?_
  refine x_iload_n C 1 dX6_knows_4 rfl ?_
  obtain ⟨g5, h⟩ := gdB h
  refine x_iald C 11 rfl g5 dX6_knows_5 ?_
  refine x_iload_n C 2 dX6_knows_6 rfl ?_
  refine x_ishr C dX6_knows_7 ?_
  refine x_iconst C (v := 1) dX6_knows_8 (by decide) ?_
  refine x_iand C dX6_knows_9 ?_
  refine x_iconst C (v := 1) dX6_knows_10 (by decide) ?_
  refine x_icmp_ne C (t := 18) dX6_knows_11 (by decide) (fun c11 => ?_) (fun c11 => ?_)
  · replace h := (if_neg c11).symm.trans h
    refine x_iconst C (v := 0) dX6_knows_18 (by decide) ?_
    refine x_locals (lv' := []) [] rfl ?_
    exact X_X6_knows_b19 C h
  · replace h := (if_pos c11).symm.trans h
    refine x_iconst C (v := 1) dX6_knows_14 (by decide) ?_
    refine x_goto C (t := 19) dX6_knows_15 (by decide) ?_
    refine x_locals (lv' := []) [] rfl ?_
    exact X_X6_knows_b19 C h
set_option maxRecDepth 100000 in
theorem c_X6_knows {l : Launch} {D : va_G} {cI cZ cJ : ClassId} {ad : Nat → Nat} {S : St} {rest : va_W} {x1 x2 : Int32} {r : Int32} (h : X6_knows S x1 x2 = some r) : ∀ sz, Met l yX6_knows wsX6_knows rm_X6_knows (PC D (t3 cI cZ cJ) [.ref (ad 0), .int x1, .int x2] (wM cI cZ ad S rest) sz) (QI D (t3 cI cZ cJ) (wM cI cZ ad S rest) (wM cI cZ ad S rest) sz r) 0 0 (va_A (wM cI cZ ad S rest) sz) := by
  refine x_met (Qc := fun sz => QI D (t3 cI cZ cJ) (wM cI cZ ad S rest) (wM cI cZ ad S rest) sz r) RX6 rfl (by decide) rfl (Nat.le_of_ble_eq_true rfl) (fun p e s m args below meth c C => ?_)
  exact X_X6_knows C h
/-! EntryMastersModel.next(II)I -/
abbrev rm_X6_next : Room := { frames := 1, cells := 0, slots := 0, locals := 22 }
theorem hi_X6_next_6 : ∀ z ∈ u_ws RX6 TX6 26, z ∈ wsX6_next := by decide +kernel
theorem lk_X6_next_34 : Cond.fieldLink RX6 34 RX6 "time" "[I" ∈ wsX6_next := by decide +kernel
theorem lk_X6_next_37 : Cond.fieldLink RX6 37 RX6 "maker" "[I" ∈ wsX6_next := by decide +kernel
theorem lk_X6_next_88 : Cond.fieldLink RX6 88 RX6 "changes" "I" ∈ wsX6_next := by decide +kernel
theorem cw_X6_next_X6_knows_109 {p : Program} {s : State} {m : MethodId} {args : Array Value} {meth : Method} {c : Code} {D : va_G} {tys : List (ClassId × FieldType)} {R : Room} (C : XC p R s m args meth c cX6_next 6 (some .int) RX6 wsX6_next D tys) : CallW rm_X6_next s args RX6 RX6 109 yX6_knows cX6_knows 3 (some .boolean) wsX6_knows rm_X6_knows 0 0 2 := cwV 2 C.2.2.2.2.1 gX6_next_X6_knows rfl rfl rfl (by decide +kernel) ⟨Nat.le_of_ble_eq_true rfl, Nat.le_of_ble_eq_true rfl⟩
def X6_next_b109 (S : St) (x3 : Int32) : Option (Int32) :=
  some x3
set_option maxHeartbeats 4000000 in
set_option maxRecDepth 100000 in
theorem X_X6_next_b109 {p : Program} {l : Launch} {e : Env} {s : State} {m : MethodId} {args : Array Value} {below : List Frame} {meth : Method} {c : Code} {D : va_G} {cI cZ cJ : ClassId} {ad : Nat → Nat} {rest w0 : va_W} (C : XC p rm_X6_next s m args meth c cX6_next 6 (some .int) RX6 wsX6_next D (t3 cI cZ cJ)) {S : St} {x3 : Int32} {r : Int32} (h : X6_next_b109 S x3 = some r) : XW p l e rm_X6_next s m args below meth c D w0 6 (MQ below (QI D (t3 cI cZ cJ) w0 (wM cI cZ ad S rest) s.heap.size r) args s 0 0 (va_A w0 s.heap.size)) (wM cI cZ ad S rest) 0 0 109 [(3, .int x3)] [] := by
  unfold X6_next_b109 at h
  refine x_iload_n C 0 dX6_next_109 rfl ?_
  obtain rfl := Option.some.inj h
  exact x_iret C dX6_next_110
def X6_next_b102 (S : St) (x1 x2 x4 s0 : Int32) : Option ((Int32 × Int32 × Int32 × Int32) ⊕ (Int32)) :=
  some (.inl (x1, x2, s0, x4 + 1))
set_option maxHeartbeats 4000000 in
set_option maxRecDepth 100000 in
theorem X_X6_next_b102 {p : Program} {l : Launch} {e : Env} {s : State} {m : MethodId} {args : Array Value} {below : List Frame} {meth : Method} {c : Code} {D : va_G} {cI cZ cJ : ClassId} {ad : Nat → Nat} {rest w0 : va_W} (C : XC p rm_X6_next s m args meth c cX6_next 6 (some .int) RX6 wsX6_next D (t3 cI cZ cJ)) {S : St} {x1 x2 x4 s0 : Int32} {z : (Int32 × Int32 × Int32 × Int32) ⊕ (Int32)} {r : Int32} (h : X6_next_b102 S x1 x2 x4 s0 = some z) (hk : ∀ a' : (Int32 × Int32 × Int32 × Int32), z = .inl a' → XW p l e rm_X6_next s m args below meth c D w0 6 (MQ below (QI D (t3 cI cZ cJ) w0 (wM cI cZ ad S rest) s.heap.size r) args s 0 0 (va_A w0 s.heap.size)) (wM cI cZ ad S rest) 0 0 5 [(0, .ref (ad 0)), (1, .int a'.1), (2, .int a'.2.1), (3, .int a'.2.2.1), (4, .int a'.2.2.2)] []) (hr : ∀ r', z = .inr r' → r' = r) : XW p l e rm_X6_next s m args below meth c D w0 6 (MQ below (QI D (t3 cI cZ cJ) w0 (wM cI cZ ad S rest) s.heap.size r) args s 0 0 (va_A w0 s.heap.size)) (wM cI cZ ad S rest) 0 0 102 [(0, .ref (ad 0)), (1, .int x1), (2, .int x2), (4, .int x4)] [.int s0] := by
  unfold X6_next_b102 at h
  refine x_istore_n C (lv' := [(0, .ref (ad 0)), (1, .int x1), (2, .int x2), (3, .int s0), (4, .int x4)]) dX6_next_102 (by decide) rfl ?_
  refine x_iinc C (v := x4 + 1) (lv' := [(0, .ref (ad 0)), (1, .int x1), (2, .int x2), (3, .int s0), (4, .int (x4 + 1))]) 4 dX6_next_103 rfl rfl (by decide) rfl ?_
  refine x_goto C (t := 5) dX6_next_106 (by decide) ?_
  exact hk _ (Option.some.inj h).symm
def X6_next_b101 (S : St) (x1 x2 x3 x4 : Int32) : Option ((Int32 × Int32 × Int32 × Int32) ⊕ (Int32)) :=
  X6_next_b102 S x1 x2 x4 x3
set_option maxHeartbeats 4000000 in
set_option maxRecDepth 100000 in
theorem X_X6_next_b101 {p : Program} {l : Launch} {e : Env} {s : State} {m : MethodId} {args : Array Value} {below : List Frame} {meth : Method} {c : Code} {D : va_G} {cI cZ cJ : ClassId} {ad : Nat → Nat} {rest w0 : va_W} (C : XC p rm_X6_next s m args meth c cX6_next 6 (some .int) RX6 wsX6_next D (t3 cI cZ cJ)) {S : St} {x1 x2 x3 x4 : Int32} {z : (Int32 × Int32 × Int32 × Int32) ⊕ (Int32)} {r : Int32} (h : X6_next_b101 S x1 x2 x3 x4 = some z) (hk : ∀ a' : (Int32 × Int32 × Int32 × Int32), z = .inl a' → XW p l e rm_X6_next s m args below meth c D w0 6 (MQ below (QI D (t3 cI cZ cJ) w0 (wM cI cZ ad S rest) s.heap.size r) args s 0 0 (va_A w0 s.heap.size)) (wM cI cZ ad S rest) 0 0 5 [(0, .ref (ad 0)), (1, .int a'.1), (2, .int a'.2.1), (3, .int a'.2.2.1), (4, .int a'.2.2.2)] []) (hr : ∀ r', z = .inr r' → r' = r) : XW p l e rm_X6_next s m args below meth c D w0 6 (MQ below (QI D (t3 cI cZ cJ) w0 (wM cI cZ ad S rest) s.heap.size r) args s 0 0 (va_A w0 s.heap.size)) (wM cI cZ ad S rest) 0 0 101 [(0, .ref (ad 0)), (1, .int x1), (2, .int x2), (3, .int x3), (4, .int x4)] [] := by
  unfold X6_next_b101 at h
  refine x_iload_n C 3 dX6_next_101 rfl ?_
  refine x_locals (lv' := [(0, .ref (ad 0)), (1, .int x1), (2, .int x2), (4, .int x4)]) [0, 1, 2, 4] rfl ?_
  exact X_X6_next_b102 C h hk hr
def X6_next_b96 (S : St) (x1 x2 x4 : Int32) : Option ((Int32 × Int32 × Int32 × Int32) ⊕ (Int32)) :=
  X6_next_b102 S x1 x2 x4 x4
set_option maxHeartbeats 4000000 in
set_option maxRecDepth 100000 in
theorem X_X6_next_b96 {p : Program} {l : Launch} {e : Env} {s : State} {m : MethodId} {args : Array Value} {below : List Frame} {meth : Method} {c : Code} {D : va_G} {cI cZ cJ : ClassId} {ad : Nat → Nat} {rest w0 : va_W} (C : XC p rm_X6_next s m args meth c cX6_next 6 (some .int) RX6 wsX6_next D (t3 cI cZ cJ)) {S : St} {x1 x2 x4 : Int32} {z : (Int32 × Int32 × Int32 × Int32) ⊕ (Int32)} {r : Int32} (h : X6_next_b96 S x1 x2 x4 = some z) (hk : ∀ a' : (Int32 × Int32 × Int32 × Int32), z = .inl a' → XW p l e rm_X6_next s m args below meth c D w0 6 (MQ below (QI D (t3 cI cZ cJ) w0 (wM cI cZ ad S rest) s.heap.size r) args s 0 0 (va_A w0 s.heap.size)) (wM cI cZ ad S rest) 0 0 5 [(0, .ref (ad 0)), (1, .int a'.1), (2, .int a'.2.1), (3, .int a'.2.2.1), (4, .int a'.2.2.2)] []) (hr : ∀ r', z = .inr r' → r' = r) : XW p l e rm_X6_next s m args below meth c D w0 6 (MQ below (QI D (t3 cI cZ cJ) w0 (wM cI cZ ad S rest) s.heap.size r) args s 0 0 (va_A w0 s.heap.size)) (wM cI cZ ad S rest) 0 0 96 [(0, .ref (ad 0)), (1, .int x1), (2, .int x2), (4, .int x4)] [] := by
  unfold X6_next_b96 at h
  refine x_iload C 3 dX6_next_96 rfl ?_
  refine x_goto C (t := 102) dX6_next_98 (by decide) ?_
  exact X_X6_next_b102 C h hk hr
def X6_next_b50 (S : St) (x1 x2 x3 x4 s0 : Int32) : Option ((Int32 × Int32 × Int32 × Int32) ⊕ (Int32)) :=
  if s0 = 0 then (X6_next_b101 S x1 x2 x3 x4) else (if x3 < 0 then (X6_next_b96 S x1 x2 x4) else (if inB x4 40 then (if inB x4 40 then (if inB x3 40 then (if inB x3 40 then (if ((2 * (S 9 x3.toNatClampNeg)) + (S 10 x3.toNatClampNeg)) ≤ ((2 * (S 9 x4.toNatClampNeg)) + (S 10 x4.toNatClampNeg)) then (X6_next_b101 S x1 x2 x3 x4) else (X6_next_b96 S x1 x2 x4)) else none) else none) else none) else none))
set_option maxHeartbeats 4000000 in
set_option maxRecDepth 100000 in
theorem X_X6_next_b50 {p : Program} {l : Launch} {e : Env} {s : State} {m : MethodId} {args : Array Value} {below : List Frame} {meth : Method} {c : Code} {D : va_G} {cI cZ cJ : ClassId} {ad : Nat → Nat} {rest w0 : va_W} (C : XC p rm_X6_next s m args meth c cX6_next 6 (some .int) RX6 wsX6_next D (t3 cI cZ cJ)) {S : St} {x1 x2 x3 x4 s0 : Int32} {z : (Int32 × Int32 × Int32 × Int32) ⊕ (Int32)} {r : Int32} (h : X6_next_b50 S x1 x2 x3 x4 s0 = some z) (hk : ∀ a' : (Int32 × Int32 × Int32 × Int32), z = .inl a' → XW p l e rm_X6_next s m args below meth c D w0 6 (MQ below (QI D (t3 cI cZ cJ) w0 (wM cI cZ ad S rest) s.heap.size r) args s 0 0 (va_A w0 s.heap.size)) (wM cI cZ ad S rest) 0 0 5 [(0, .ref (ad 0)), (1, .int a'.1), (2, .int a'.2.1), (3, .int a'.2.2.1), (4, .int a'.2.2.2)] []) (hr : ∀ r', z = .inr r' → r' = r) : XW p l e rm_X6_next s m args below meth c D w0 6 (MQ below (QI D (t3 cI cZ cJ) w0 (wM cI cZ ad S rest) s.heap.size r) args s 0 0 (va_A w0 s.heap.size)) (wM cI cZ ad S rest) 0 0 50 [(0, .ref (ad 0)), (1, .int x1), (2, .int x2), (3, .int x3), (4, .int x4)] [.int s0] := by
  unfold X6_next_b50 at h
  refine x_istore C (lv' := [(0, .ref (ad 0)), (1, .int x1), (2, .int x2), (3, .int x3), (4, .int x4), (5, .int s0)]) dX6_next_50 (by decide) rfl ?_
  refine x_iload C 5 dX6_next_52 rfl ?_
  refine x_if_eq C (t := 101) dX6_next_54 (by decide) (fun c54 => ?_) (fun c54 => ?_)
  · replace h := (if_pos c54).symm.trans h
    refine x_locals (lv' := [(0, .ref (ad 0)), (1, .int x1), (2, .int x2), (3, .int x3), (4, .int x4)]) [0, 1, 2, 3, 4] rfl ?_
    exact X_X6_next_b101 C h hk hr
  · replace h := (if_neg c54).symm.trans h
    refine x_iload_n C 3 dX6_next_57 rfl ?_
    refine x_if_lt C (t := 96) dX6_next_58 (by decide) (fun c58 => ?_) (fun c58 => ?_)
    · replace h := (if_pos c58).symm.trans h
      refine x_locals (lv' := [(0, .ref (ad 0)), (1, .int x1), (2, .int x2), (4, .int x4)]) [0, 1, 2, 4] rfl ?_
      exact X_X6_next_b96 C h hk hr
    · replace h := (if_neg c58).symm.trans h
      refine x_iconst C (v := 2) dX6_next_61 (by decide) ?_
      refine x_aload_n C 0 dX6_next_62 rfl ?_
      refine x_get C (R' := RX6) (T := TX6) (N := 26) (ci := 6) 0 9 rfl rfl (by decide) rfl rfl hi_X6_next_6 lk_X6_next_34 dX6_next_63 ?_
      refine x_iload C 4 dX6_next_66 rfl ?_
      obtain ⟨g68, h⟩ := gdB h
      refine x_iald C 9 rfl g68 dX6_next_68 ?_
      refine x_imul C dX6_next_69 ?_
      refine x_aload_n C 0 dX6_next_70 rfl ?_
      refine x_get C (R' := RX6) (T := TX6) (N := 26) (ci := 6) 0 10 rfl rfl (by decide) rfl rfl hi_X6_next_6 lk_X6_next_37 dX6_next_71 ?_
      refine x_iload C 4 dX6_next_74 rfl ?_
      obtain ⟨g76, h⟩ := gdB h
      refine x_iald C 10 rfl g76 dX6_next_76 ?_
      refine x_iadd C dX6_next_77 ?_
      refine x_iconst C (v := 2) dX6_next_78 (by decide) ?_
      refine x_aload_n C 0 dX6_next_79 rfl ?_
      refine x_get C (R' := RX6) (T := TX6) (N := 26) (ci := 6) 0 9 rfl rfl (by decide) rfl rfl hi_X6_next_6 lk_X6_next_34 dX6_next_80 ?_
      refine x_iload_n C 3 dX6_next_83 rfl ?_
      obtain ⟨g84, h⟩ := gdB h
      refine x_iald C 9 rfl g84 dX6_next_84 ?_
      refine x_imul C dX6_next_85 ?_
      refine x_aload_n C 0 dX6_next_86 rfl ?_
      refine x_get C (R' := RX6) (T := TX6) (N := 26) (ci := 6) 0 10 rfl rfl (by decide) rfl rfl hi_X6_next_6 lk_X6_next_37 dX6_next_87 ?_
      refine x_iload_n C 3 dX6_next_90 rfl ?_
      obtain ⟨g91, h⟩ := gdB h
      refine x_iald C 10 rfl g91 dX6_next_91 ?_
      refine x_iadd C dX6_next_92 ?_
      refine x_icmp_ge C (t := 101) dX6_next_93 (by decide) (fun c93 => ?_) (fun c93 => ?_)
      · replace h := (if_pos c93).symm.trans h
        refine x_locals (lv' := [(0, .ref (ad 0)), (1, .int x1), (2, .int x2), (3, .int x3), (4, .int x4)]) [0, 1, 2, 3, 4] rfl ?_
        exact X_X6_next_b101 C h hk hr
      · replace h := (if_neg c93).symm.trans h
        refine x_locals (lv' := [(0, .ref (ad 0)), (1, .int x1), (2, .int x2), (4, .int x4)]) [0, 1, 2, 4] rfl ?_
        exact X_X6_next_b96 C h hk hr
def X6_next_b49 (S : St) (x1 x2 x3 x4 : Int32) : Option ((Int32 × Int32 × Int32 × Int32) ⊕ (Int32)) :=
  X6_next_b50 S x1 x2 x3 x4 0
set_option maxHeartbeats 4000000 in
set_option maxRecDepth 100000 in
theorem X_X6_next_b49 {p : Program} {l : Launch} {e : Env} {s : State} {m : MethodId} {args : Array Value} {below : List Frame} {meth : Method} {c : Code} {D : va_G} {cI cZ cJ : ClassId} {ad : Nat → Nat} {rest w0 : va_W} (C : XC p rm_X6_next s m args meth c cX6_next 6 (some .int) RX6 wsX6_next D (t3 cI cZ cJ)) {S : St} {x1 x2 x3 x4 : Int32} {z : (Int32 × Int32 × Int32 × Int32) ⊕ (Int32)} {r : Int32} (h : X6_next_b49 S x1 x2 x3 x4 = some z) (hk : ∀ a' : (Int32 × Int32 × Int32 × Int32), z = .inl a' → XW p l e rm_X6_next s m args below meth c D w0 6 (MQ below (QI D (t3 cI cZ cJ) w0 (wM cI cZ ad S rest) s.heap.size r) args s 0 0 (va_A w0 s.heap.size)) (wM cI cZ ad S rest) 0 0 5 [(0, .ref (ad 0)), (1, .int a'.1), (2, .int a'.2.1), (3, .int a'.2.2.1), (4, .int a'.2.2.2)] []) (hr : ∀ r', z = .inr r' → r' = r) : XW p l e rm_X6_next s m args below meth c D w0 6 (MQ below (QI D (t3 cI cZ cJ) w0 (wM cI cZ ad S rest) s.heap.size r) args s 0 0 (va_A w0 s.heap.size)) (wM cI cZ ad S rest) 0 0 49 [(0, .ref (ad 0)), (1, .int x1), (2, .int x2), (3, .int x3), (4, .int x4)] [] := by
  unfold X6_next_b49 at h
  refine x_iconst C (v := 0) dX6_next_49 (by decide) ?_
  exact X_X6_next_b50 C h hk hr
def X6_next_H5 (S : St) (x1 x2 x3 x4 : Int32) : Option ((Int32 × Int32 × Int32 × Int32) ⊕ (Int32)) :=
  if (S 0 2) ≤ x4 then (exI (X6_next_b109 S x3)) else ((X6_knows S x4 x1).bind fun v18 => if v18 = 0 then (X6_next_b49 S x1 x2 x3 x4) else (if inB x4 40 then (if inB x4 40 then (if ((2 * (S 9 x4.toNatClampNeg)) + (S 10 x4.toNatClampNeg)) ≤ x2 then (X6_next_b49 S x1 x2 x3 x4) else (X6_next_b50 S x1 x2 x3 x4 1)) else none) else none))
set_option maxHeartbeats 4000000 in
set_option maxRecDepth 100000 in
theorem X_X6_next_H5 {p : Program} {l : Launch} {e : Env} {s : State} {m : MethodId} {args : Array Value} {below : List Frame} {meth : Method} {c : Code} {D : va_G} {cI cZ cJ : ClassId} {ad : Nat → Nat} {rest w0 : va_W} (C : XC p rm_X6_next s m args meth c cX6_next 6 (some .int) RX6 wsX6_next D (t3 cI cZ cJ)) {S : St} {x1 x2 x3 x4 : Int32} {z : (Int32 × Int32 × Int32 × Int32) ⊕ (Int32)} {r : Int32} (h : X6_next_H5 S x1 x2 x3 x4 = some z) (hk : ∀ a' : (Int32 × Int32 × Int32 × Int32), z = .inl a' → XW p l e rm_X6_next s m args below meth c D w0 6 (MQ below (QI D (t3 cI cZ cJ) w0 (wM cI cZ ad S rest) s.heap.size r) args s 0 0 (va_A w0 s.heap.size)) (wM cI cZ ad S rest) 0 0 5 [(0, .ref (ad 0)), (1, .int a'.1), (2, .int a'.2.1), (3, .int a'.2.2.1), (4, .int a'.2.2.2)] []) (hr : ∀ r', z = .inr r' → r' = r) : XW p l e rm_X6_next s m args below meth c D w0 6 (MQ below (QI D (t3 cI cZ cJ) w0 (wM cI cZ ad S rest) s.heap.size r) args s 0 0 (va_A w0 s.heap.size)) (wM cI cZ ad S rest) 0 0 5 [(0, .ref (ad 0)), (1, .int x1), (2, .int x2), (3, .int x3), (4, .int x4)] [] := by
  unfold X6_next_H5 at h
  refine x_iload C 4 dX6_next_5 rfl ?_
  refine x_aload_n C 0 dX6_next_7 rfl ?_
  refine x_get C (R' := RX6) (T := TX6) (N := 26) (ci := 6) 0 2 rfl rfl (by decide) rfl rfl hi_X6_next_6 lk_X6_next_88 dX6_next_8 ?_
  refine x_icmp_ge C (t := 109) dX6_next_11 (by decide) (fun c11 => ?_) (fun c11 => ?_)
  · replace h := (if_pos c11).symm.trans h
    refine x_locals (lv' := [(3, .int x3)]) [3] rfl ?_
    obtain ⟨r1, h1, h2⟩ := exI_some h
    obtain rfl := hr r1 h2
    exact X_X6_next_b109 C h1
  · replace h := (if_neg c11).symm.trans h
    refine x_aload_n C 0 dX6_next_14 rfl ?_
    refine x_iload C 4 dX6_next_15 rfl ?_
    refine x_iload_n C 1 dX6_next_17 rfl ?_
    obtain ⟨v18, hg18, h⟩ := ob h
    refine x_ci0 (x_runV C (As := [.int x4, .int x1]) (rest := []) (c_X6_knows hg18) (cw_X6_next_X6_knows_109 C) 0 rfl rfl rfl (Nat.le_of_ble_eq_true rfl) dX6_next_18 ⟨Nat.zero_le _, Nat.zero_le _⟩) ?_
    refine x_if_eq C (t := 49) dX6_next_21 (by decide) (fun c21 => ?_) (fun c21 => ?_)
    · replace h := (if_pos c21).symm.trans h
      exact X_X6_next_b49 C h hk hr
    · replace h := (if_neg c21).symm.trans h
      refine x_iconst C (v := 2) dX6_next_24 (by decide) ?_
      refine x_aload_n C 0 dX6_next_25 rfl ?_
      refine x_get C (R' := RX6) (T := TX6) (N := 26) (ci := 6) 0 9 rfl rfl (by decide) rfl rfl hi_X6_next_6 lk_X6_next_34 dX6_next_26 ?_
      refine x_iload C 4 dX6_next_29 rfl ?_
      obtain ⟨g31, h⟩ := gdB h
      refine x_iald C 9 rfl g31 dX6_next_31 ?_
      refine x_imul C dX6_next_32 ?_
      refine x_aload_n C 0 dX6_next_33 rfl ?_
      refine x_get C (R' := RX6) (T := TX6) (N := 26) (ci := 6) 0 10 rfl rfl (by decide) rfl rfl hi_X6_next_6 lk_X6_next_37 dX6_next_34 ?_
      refine x_iload C 4 dX6_next_37 rfl ?_
      obtain ⟨g39, h⟩ := gdB h
      refine x_iald C 10 rfl g39 dX6_next_39 ?_
      refine x_iadd C dX6_next_40 ?_
      refine x_iload_n C 2 dX6_next_41 rfl ?_
      refine x_icmp_le C (t := 49) dX6_next_42 (by decide) (fun c42 => ?_) (fun c42 => ?_)
      · replace h := (if_pos c42).symm.trans h
        exact X_X6_next_b49 C h hk hr
      · replace h := (if_neg c42).symm.trans h
        refine x_iconst C (v := 1) dX6_next_45 (by decide) ?_
        refine x_goto C (t := 50) dX6_next_46 (by decide) ?_
        exact X_X6_next_b50 C h hk hr
def X6_next_L5 (S : St) (x1 x2 x3 x4 : Int32) : Option (Int32) := wloop (fun a' : (Int32 × Int32 × Int32 × Int32) => X6_next_H5 S a'.1 a'.2.1 a'.2.2.1 a'.2.2.2) 1000 (x1, x2, x3, x4)
set_option maxHeartbeats 4000000 in
set_option maxRecDepth 100000 in
theorem X_X6_next_L5 {p : Program} {l : Launch} {e : Env} {s : State} {m : MethodId} {args : Array Value} {below : List Frame} {meth : Method} {c : Code} {D : va_G} {cI cZ cJ : ClassId} {ad : Nat → Nat} {rest w0 : va_W} (C : XC p rm_X6_next s m args meth c cX6_next 6 (some .int) RX6 wsX6_next D (t3 cI cZ cJ)) {S : St} {x1 x2 x3 x4 : Int32} {r : Int32} (h : X6_next_L5 S x1 x2 x3 x4 = some r) : XW p l e rm_X6_next s m args below meth c D w0 6 (MQ below (QI D (t3 cI cZ cJ) w0 (wM cI cZ ad S rest) s.heap.size r) args s 0 0 (va_A w0 s.heap.size)) (wM cI cZ ad S rest) 0 0 5 [(0, .ref (ad 0)), (1, .int x1), (2, .int x2), (3, .int x3), (4, .int x4)] [] :=
  wloop_met (P := (fun a' : (Int32 × Int32 × Int32 × Int32) => XW p l e rm_X6_next s m args below meth c D w0 6 (MQ below (QI D (t3 cI cZ cJ) w0 (wM cI cZ ad S rest) s.heap.size r) args s 0 0 (va_A w0 s.heap.size)) (wM cI cZ ad S rest) 0 0 5 [(0, .ref (ad 0)), (1, .int a'.1), (2, .int a'.2.1), (3, .int a'.2.2.1), (4, .int a'.2.2.2)] [])) (fun _ _ hz hk hr => X_X6_next_H5 C hz hk hr) 1000 (x1, x2, x3, x4) h
def X6_next (S : St) (x1 x2 : Int32) : Option (Int32) :=
  X6_next_L5 S x1 x2 (-1) 0
set_option maxHeartbeats 4000000 in
set_option maxRecDepth 100000 in
theorem X_X6_next {p : Program} {l : Launch} {e : Env} {s : State} {m : MethodId} {args : Array Value} {below : List Frame} {meth : Method} {c : Code} {D : va_G} {cI cZ cJ : ClassId} {ad : Nat → Nat} {rest w0 : va_W} (C : XC p rm_X6_next s m args meth c cX6_next 6 (some .int) RX6 wsX6_next D (t3 cI cZ cJ)) {S : St} {x1 x2 : Int32} {r : Int32} (h : X6_next S x1 x2 = some r) : XW p l e rm_X6_next s m args below meth c D w0 6 (MQ below (QI D (t3 cI cZ cJ) w0 (wM cI cZ ad S rest) s.heap.size r) args s 0 0 (va_A w0 s.heap.size)) (wM cI cZ ad S rest) 0 0 0 [(0, .ref (ad 0)), (1, .int x1), (2, .int x2)] [] := by
  unfold X6_next at h
  refine x_iconst C (v := (-1)) dX6_next_0 (by decide) ?_
  refine x_istore_n C (lv' := [(0, .ref (ad 0)), (1, .int x1), (2, .int x2), (3, .int (-1))]) dX6_next_1 (by decide) rfl ?_
  refine x_iconst C (v := 0) dX6_next_2 (by decide) ?_
  refine x_istore C (lv' := [(0, .ref (ad 0)), (1, .int x1), (2, .int x2), (3, .int (-1)), (4, .int 0)]) dX6_next_3 (by decide) rfl ?_
  exact X_X6_next_L5 C h
set_option maxRecDepth 100000 in
theorem c_X6_next {l : Launch} {D : va_G} {cI cZ cJ : ClassId} {ad : Nat → Nat} {S : St} {rest : va_W} {x1 x2 : Int32} {r : Int32} (h : X6_next S x1 x2 = some r) : ∀ sz, Met l yX6_next wsX6_next rm_X6_next (PC D (t3 cI cZ cJ) [.ref (ad 0), .int x1, .int x2] (wM cI cZ ad S rest) sz) (QI D (t3 cI cZ cJ) (wM cI cZ ad S rest) (wM cI cZ ad S rest) sz r) 0 0 (va_A (wM cI cZ ad S rest) sz) := by
  refine x_met (Qc := fun sz => QI D (t3 cI cZ cJ) (wM cI cZ ad S rest) (wM cI cZ ad S rest) sz r) RX6 rfl (by decide) rfl (Nat.le_of_ble_eq_true rfl) (fun p e s m args below meth c C => ?_)
  exact X_X6_next C h
/-! EntryMastersModel.grows(I)V -/
abbrev rm_X6_grows : Room := { frames := 4, cells := 0, slots := 0, locals := 91 }
theorem hi_X6_grows_6 : ∀ z ∈ u_ws RX6 TX6 26, z ∈ wsX6_grows := by decide +kernel
theorem lk_X6_grows_34 : Cond.fieldLink RX6 34 RX6 "time" "[I" ∈ wsX6_grows := by decide +kernel
theorem lk_X6_grows_37 : Cond.fieldLink RX6 37 RX6 "maker" "[I" ∈ wsX6_grows := by decide +kernel
theorem lk_X6_grows_62 : Cond.fieldLink RX6 62 RX6 "there" "[Z" ∈ wsX6_grows := by decide +kernel
theorem lk_X6_grows_65 : Cond.fieldLink RX6 65 RX6 "parent" "[I" ∈ wsX6_grows := by decide +kernel
theorem lk_X6_grows_68 : Cond.fieldLink RX6 68 RX6 "label" "[I" ∈ wsX6_grows := by decide +kernel
theorem lk_X6_grows_71 : Cond.fieldLink RX6 71 RX6 "its" "[I" ∈ wsX6_grows := by decide +kernel
theorem lk_X6_grows_74 : Cond.fieldLink RX6 74 RX6 "value" "[I" ∈ wsX6_grows := by decide +kernel
theorem cw_X6_grows_X6_does_116 {p : Program} {s : State} {m : MethodId} {args : Array Value} {meth : Method} {c : Code} {D : va_G} {tys : List (ClassId × FieldType)} {R : Room} (C : XC p R s m args meth c cX6_grows 4 none RX6 wsX6_grows D tys) : CallW rm_X6_grows s args RX6 RX6 116 yX6_does cX6_does 4 none wsX6_does rm_X6_does 0 0 1 := cwV 1 C.2.2.2.2.1 gX6_grows_X6_does rfl rfl rfl (by decide +kernel) ⟨Nat.le_of_ble_eq_true rfl, Nat.le_of_ble_eq_true rfl⟩
theorem cw_X6_grows_X6_next_112 {p : Program} {s : State} {m : MethodId} {args : Array Value} {meth : Method} {c : Code} {D : va_G} {tys : List (ClassId × FieldType)} {R : Room} (C : XC p R s m args meth c cX6_grows 4 none RX6 wsX6_grows D tys) : CallW rm_X6_grows s args RX6 RX6 112 yX6_next cX6_next 6 (some .int) wsX6_next rm_X6_next 0 0 2 := cwV 2 C.2.2.2.2.1 gX6_grows_X6_next rfl rfl rfl (by decide +kernel) ⟨Nat.le_of_ble_eq_true rfl, Nat.le_of_ble_eq_true rfl⟩
def X6_grows_b136 (S : St) : Option (St) :=
  some S
set_option maxHeartbeats 4000000 in
set_option maxRecDepth 100000 in
theorem X_X6_grows_b136 {p : Program} {l : Launch} {e : Env} {s : State} {m : MethodId} {args : Array Value} {below : List Frame} {meth : Method} {c : Code} {D : va_G} {cI cZ cJ : ClassId} {ad : Nat → Nat} {rest w0 : va_W} (C : XC p rm_X6_grows s m args meth c cX6_grows 4 none RX6 wsX6_grows D (t3 cI cZ cJ)) {S : St} {r : St} (h : X6_grows_b136 S = some r) : XW p l e rm_X6_grows s m args below meth c D w0 4 (MQ below (QV D (t3 cI cZ cJ) w0 (wM cI cZ ad r rest) s.heap.size) args s 0 0 (va_A w0 s.heap.size)) (wM cI cZ ad S rest) 0 0 136 [] [] := by
  unfold X6_grows_b136 at h
  obtain rfl := Option.some.inj h
  exact x_vret C dX6_grows_136
def X6_grows_b110 (S : St) (x1 x3 : Int32) : Option ((St × Int32 × Int32) ⊕ (St)) :=
  if inB x3 40 then (if inB x3 40 then ((X6_next S x1 ((2 * (S 9 x3.toNatClampNeg)) + (S 10 x3.toNatClampNeg))).bind fun v129 => some (.inl (S, x1, v129))) else none) else none
set_option maxHeartbeats 4000000 in
set_option maxRecDepth 100000 in
theorem X_X6_grows_b110 {p : Program} {l : Launch} {e : Env} {s : State} {m : MethodId} {args : Array Value} {below : List Frame} {meth : Method} {c : Code} {D : va_G} {cI cZ cJ : ClassId} {ad : Nat → Nat} {rest w0 : va_W} (C : XC p rm_X6_grows s m args meth c cX6_grows 4 none RX6 wsX6_grows D (t3 cI cZ cJ)) {S : St} {x1 x3 : Int32} {z : (St × Int32 × Int32) ⊕ (St)} {r : St} (h : X6_grows_b110 S x1 x3 = some z) (hk : ∀ a' : (St × Int32 × Int32), z = .inl a' → XW p l e rm_X6_grows s m args below meth c D w0 4 (MQ below (QV D (t3 cI cZ cJ) w0 (wM cI cZ ad r rest) s.heap.size) args s 0 0 (va_A w0 s.heap.size)) (wM cI cZ ad a'.1 rest) 0 0 101 [(0, .ref (ad 0)), (1, .int a'.2.1), (3, .int a'.2.2)] []) (hr : ∀ r', z = .inr r' → r' = r) : XW p l e rm_X6_grows s m args below meth c D w0 4 (MQ below (QV D (t3 cI cZ cJ) w0 (wM cI cZ ad r rest) s.heap.size) args s 0 0 (va_A w0 s.heap.size)) (wM cI cZ ad S rest) 0 0 110 [(0, .ref (ad 0)), (1, .int x1), (3, .int x3)] [] := by
  unfold X6_grows_b110 at h
  refine x_iconst C (v := 2) dX6_grows_110 (by decide) ?_
  refine x_aload_n C 0 dX6_grows_111 rfl ?_
  refine x_get C (R' := RX6) (T := TX6) (N := 26) (ci := 6) 0 9 rfl rfl (by decide) rfl rfl hi_X6_grows_6 lk_X6_grows_34 dX6_grows_112 ?_
  refine x_iload_n C 2 dX6_grows_115 rfl ?_
  obtain ⟨g116, h⟩ := gdB h
  refine x_iald C 9 rfl g116 dX6_grows_116 ?_
  refine x_imul C dX6_grows_117 ?_
  refine x_aload_n C 0 dX6_grows_118 rfl ?_
  refine x_get C (R' := RX6) (T := TX6) (N := 26) (ci := 6) 0 10 rfl rfl (by decide) rfl rfl hi_X6_grows_6 lk_X6_grows_37 dX6_grows_119 ?_
  refine x_iload_n C 2 dX6_grows_122 rfl ?_
  obtain ⟨g123, h⟩ := gdB h
  refine x_iald C 10 rfl g123 dX6_grows_123 ?_
  refine x_iadd C dX6_grows_124 ?_
  refine x_istore_n C (lv' := [(0, .ref (ad 0)), (1, .int x1), (2, .int ((2 * (S 9 x3.toNatClampNeg)) + (S 10 x3.toNatClampNeg))), (3, .int x3)]) dX6_grows_125 (by decide) rfl ?_
  refine x_aload_n C 0 dX6_grows_126 rfl ?_
  refine x_iload_n C 1 dX6_grows_127 rfl ?_
  refine x_iload_n C 2 dX6_grows_128 rfl ?_
  obtain ⟨v129, hg129, h⟩ := ob h
  refine x_ci0 (x_runV C (As := [.int x1, .int ((2 * (S 9 x3.toNatClampNeg)) + (S 10 x3.toNatClampNeg))]) (rest := []) (c_X6_next hg129) (cw_X6_grows_X6_next_112 C) 0 rfl rfl rfl (Nat.le_of_ble_eq_true rfl) dX6_grows_129 ⟨Nat.zero_le _, Nat.zero_le _⟩) ?_
  refine x_istore_n C (lv' := [(0, .ref (ad 0)), (1, .int x1), (2, .int ((2 * (S 9 x3.toNatClampNeg)) + (S 10 x3.toNatClampNeg))), (3, .int v129)]) dX6_grows_132 (by decide) rfl ?_
  refine x_goto C (t := 101) dX6_grows_133 (by decide) ?_
  refine x_locals (lv' := [(0, .ref (ad 0)), (1, .int x1), (3, .int v129)]) [0, 1, 3] rfl ?_
  exact hk _ (Option.some.inj h).symm
def X6_grows_H101 (S : St) (x1 x3 : Int32) : Option ((St × Int32 × Int32) ⊕ (St)) :=
  if x3 < 0 then (exI (X6_grows_b136 S)) else ((X6_does S x3).bind fun S107 => X6_grows_b110 S107 x1 x3)
set_option maxHeartbeats 4000000 in
set_option maxRecDepth 100000 in
theorem X_X6_grows_H101 {p : Program} {l : Launch} {e : Env} {s : State} {m : MethodId} {args : Array Value} {below : List Frame} {meth : Method} {c : Code} {D : va_G} {cI cZ cJ : ClassId} {ad : Nat → Nat} {rest w0 : va_W} (C : XC p rm_X6_grows s m args meth c cX6_grows 4 none RX6 wsX6_grows D (t3 cI cZ cJ)) {S : St} {x1 x3 : Int32} {z : (St × Int32 × Int32) ⊕ (St)} {r : St} (h : X6_grows_H101 S x1 x3 = some z) (hk : ∀ a' : (St × Int32 × Int32), z = .inl a' → XW p l e rm_X6_grows s m args below meth c D w0 4 (MQ below (QV D (t3 cI cZ cJ) w0 (wM cI cZ ad r rest) s.heap.size) args s 0 0 (va_A w0 s.heap.size)) (wM cI cZ ad a'.1 rest) 0 0 101 [(0, .ref (ad 0)), (1, .int a'.2.1), (3, .int a'.2.2)] []) (hr : ∀ r', z = .inr r' → r' = r) : XW p l e rm_X6_grows s m args below meth c D w0 4 (MQ below (QV D (t3 cI cZ cJ) w0 (wM cI cZ ad r rest) s.heap.size) args s 0 0 (va_A w0 s.heap.size)) (wM cI cZ ad S rest) 0 0 101 [(0, .ref (ad 0)), (1, .int x1), (3, .int x3)] [] := by
  unfold X6_grows_H101 at h
  refine x_iload_n C 2 dX6_grows_101 rfl ?_
  refine x_if_lt C (t := 136) dX6_grows_102 (by decide) (fun c102 => ?_) (fun c102 => ?_)
  · replace h := (if_pos c102).symm.trans h
    refine x_locals (lv' := []) [] rfl ?_
    obtain ⟨r1, h1, h2⟩ := exI_some h
    obtain rfl := hr r1 h2
    exact X_X6_grows_b136 C h1
  · replace h := (if_neg c102).symm.trans h
    refine x_aload_n C 0 dX6_grows_105 rfl ?_
    refine x_iload_n C 2 dX6_grows_106 rfl ?_
    obtain ⟨S107, hg107, h⟩ := ob h
    refine x_cv0 (x_runV C (As := [.int x3]) (rest := []) (c_X6_does hg107) (cw_X6_grows_X6_does_116 C) 0 rfl rfl rfl (Nat.le_of_ble_eq_true rfl) dX6_grows_107 ⟨Nat.zero_le _, Nat.zero_le _⟩) ?_
    exact X_X6_grows_b110 C h hk hr
def X6_grows_L101 (S : St) (x1 x3 : Int32) : Option (St) := wloop (fun a' : (St × Int32 × Int32) => X6_grows_H101 a'.1 a'.2.1 a'.2.2) 1000 (S, x1, x3)
set_option maxHeartbeats 4000000 in
set_option maxRecDepth 100000 in
theorem X_X6_grows_L101 {p : Program} {l : Launch} {e : Env} {s : State} {m : MethodId} {args : Array Value} {below : List Frame} {meth : Method} {c : Code} {D : va_G} {cI cZ cJ : ClassId} {ad : Nat → Nat} {rest w0 : va_W} (C : XC p rm_X6_grows s m args meth c cX6_grows 4 none RX6 wsX6_grows D (t3 cI cZ cJ)) {S : St} {x1 x3 : Int32} {r : St} (h : X6_grows_L101 S x1 x3 = some r) : XW p l e rm_X6_grows s m args below meth c D w0 4 (MQ below (QV D (t3 cI cZ cJ) w0 (wM cI cZ ad r rest) s.heap.size) args s 0 0 (va_A w0 s.heap.size)) (wM cI cZ ad S rest) 0 0 101 [(0, .ref (ad 0)), (1, .int x1), (3, .int x3)] [] :=
  wloop_met (P := (fun a' : (St × Int32 × Int32) => XW p l e rm_X6_grows s m args below meth c D w0 4 (MQ below (QV D (t3 cI cZ cJ) w0 (wM cI cZ ad r rest) s.heap.size) args s 0 0 (va_A w0 s.heap.size)) (wM cI cZ ad a'.1 rest) 0 0 101 [(0, .ref (ad 0)), (1, .int a'.2.1), (3, .int a'.2.2)] [])) (fun _ _ hz hk hr => X_X6_grows_H101 C hz hk hr) 1000 (S, x1, x3) h
def X6_grows_b92 (S : St) (x1 : Int32) : Option (St) :=
  (X6_next S x1 (-1)).bind fun v97 => X6_grows_L101 S x1 v97
set_option maxHeartbeats 4000000 in
set_option maxRecDepth 100000 in
theorem X_X6_grows_b92 {p : Program} {l : Launch} {e : Env} {s : State} {m : MethodId} {args : Array Value} {below : List Frame} {meth : Method} {c : Code} {D : va_G} {cI cZ cJ : ClassId} {ad : Nat → Nat} {rest w0 : va_W} (C : XC p rm_X6_grows s m args meth c cX6_grows 4 none RX6 wsX6_grows D (t3 cI cZ cJ)) {S : St} {x1 : Int32} {r : St} (h : X6_grows_b92 S x1 = some r) : XW p l e rm_X6_grows s m args below meth c D w0 4 (MQ below (QV D (t3 cI cZ cJ) w0 (wM cI cZ ad r rest) s.heap.size) args s 0 0 (va_A w0 s.heap.size)) (wM cI cZ ad S rest) 0 0 92 [(0, .ref (ad 0)), (1, .int x1)] [] := by
  unfold X6_grows_b92 at h
  refine x_iconst C (v := (-1)) dX6_grows_92 (by decide) ?_
  refine x_istore_n C (lv' := [(0, .ref (ad 0)), (1, .int x1), (2, .int (-1))]) dX6_grows_93 (by decide) rfl ?_
  refine x_aload_n C 0 dX6_grows_94 rfl ?_
  refine x_iload_n C 1 dX6_grows_95 rfl ?_
  refine x_iload_n C 2 dX6_grows_96 rfl ?_
  obtain ⟨v97, hg97, h⟩ := ob h
  refine x_ci0 (x_runV C (As := [.int x1, .int (-1)]) (rest := []) (c_X6_next hg97) (cw_X6_grows_X6_next_112 C) 0 rfl rfl rfl (Nat.le_of_ble_eq_true rfl) dX6_grows_97 ⟨Nat.zero_le _, Nat.zero_le _⟩) ?_
  refine x_istore_n C (lv' := [(0, .ref (ad 0)), (1, .int x1), (2, .int (-1)), (3, .int v97)]) dX6_grows_100 (by decide) rfl ?_
  refine x_locals (lv' := [(0, .ref (ad 0)), (1, .int x1), (3, .int v97)]) [0, 1, 3] rfl ?_
  exact X_X6_grows_L101 C h
def X6_grows_b86 (S : St) (x1 x2 : Int32) : Option ((St × Int32 × Int32) ⊕ (St)) :=
  some (.inl (S, x1, x2 + 1))
set_option maxHeartbeats 4000000 in
set_option maxRecDepth 100000 in
theorem X_X6_grows_b86 {p : Program} {l : Launch} {e : Env} {s : State} {m : MethodId} {args : Array Value} {below : List Frame} {meth : Method} {c : Code} {D : va_G} {cI cZ cJ : ClassId} {ad : Nat → Nat} {rest w0 : va_W} (C : XC p rm_X6_grows s m args meth c cX6_grows 4 none RX6 wsX6_grows D (t3 cI cZ cJ)) {S : St} {x1 x2 : Int32} {z : (St × Int32 × Int32) ⊕ (St)} {r : St} (h : X6_grows_b86 S x1 x2 = some z) (hk : ∀ a' : (St × Int32 × Int32), z = .inl a' → XW p l e rm_X6_grows s m args below meth c D w0 4 (MQ below (QV D (t3 cI cZ cJ) w0 (wM cI cZ ad r rest) s.heap.size) args s 0 0 (va_A w0 s.heap.size)) (wM cI cZ ad a'.1 rest) 0 0 72 [(0, .ref (ad 0)), (1, .int a'.2.1), (2, .int a'.2.2)] []) (hr : ∀ r', z = .inr r' → r' = r) : XW p l e rm_X6_grows s m args below meth c D w0 4 (MQ below (QV D (t3 cI cZ cJ) w0 (wM cI cZ ad r rest) s.heap.size) args s 0 0 (va_A w0 s.heap.size)) (wM cI cZ ad S rest) 0 0 86 [(0, .ref (ad 0)), (1, .int x1), (2, .int x2)] [] := by
  unfold X6_grows_b86 at h
  refine x_iinc C (v := x2 + 1) (lv' := [(0, .ref (ad 0)), (1, .int x1), (2, .int (x2 + 1))]) 2 dX6_grows_86 rfl rfl (by decide) rfl ?_
  refine x_goto C (t := 72) dX6_grows_89 (by decide) ?_
  exact hk _ (Option.some.inj h).symm
def X6_grows_H72 (S : St) (x1 x2 : Int32) : Option ((St × Int32 × Int32) ⊕ (St)) :=
  if 168 ≤ x2 then (exI (X6_grows_b92 S x1)) else (if inB x2 168 then (X6_grows_b86 (up S 22 (upd (S 22) x2.toNatClampNeg (-1))) x1 x2) else none)
set_option maxHeartbeats 4000000 in
set_option maxRecDepth 100000 in
theorem X_X6_grows_H72 {p : Program} {l : Launch} {e : Env} {s : State} {m : MethodId} {args : Array Value} {below : List Frame} {meth : Method} {c : Code} {D : va_G} {cI cZ cJ : ClassId} {ad : Nat → Nat} {rest w0 : va_W} (C : XC p rm_X6_grows s m args meth c cX6_grows 4 none RX6 wsX6_grows D (t3 cI cZ cJ)) {S : St} {x1 x2 : Int32} {z : (St × Int32 × Int32) ⊕ (St)} {r : St} (h : X6_grows_H72 S x1 x2 = some z) (hk : ∀ a' : (St × Int32 × Int32), z = .inl a' → XW p l e rm_X6_grows s m args below meth c D w0 4 (MQ below (QV D (t3 cI cZ cJ) w0 (wM cI cZ ad r rest) s.heap.size) args s 0 0 (va_A w0 s.heap.size)) (wM cI cZ ad a'.1 rest) 0 0 72 [(0, .ref (ad 0)), (1, .int a'.2.1), (2, .int a'.2.2)] []) (hr : ∀ r', z = .inr r' → r' = r) : XW p l e rm_X6_grows s m args below meth c D w0 4 (MQ below (QV D (t3 cI cZ cJ) w0 (wM cI cZ ad r rest) s.heap.size) args s 0 0 (va_A w0 s.heap.size)) (wM cI cZ ad S rest) 0 0 72 [(0, .ref (ad 0)), (1, .int x1), (2, .int x2)] [] := by
  unfold X6_grows_H72 at h
  refine x_iload_n C 2 dX6_grows_72 rfl ?_
  refine x_sipush C (v := 168) dX6_grows_73 (by decide) ?_
  refine x_icmp_ge C (t := 92) dX6_grows_76 (by decide) (fun c76 => ?_) (fun c76 => ?_)
  · replace h := (if_pos c76).symm.trans h
    refine x_locals (lv' := [(0, .ref (ad 0)), (1, .int x1)]) [0, 1] rfl ?_
    obtain ⟨r1, h1, h2⟩ := exI_some h
    obtain rfl := hr r1 h2
    exact X_X6_grows_b92 C h1
  · replace h := (if_neg c76).symm.trans h
    refine x_aload_n C 0 dX6_grows_79 rfl ?_
    refine x_get C (R' := RX6) (T := TX6) (N := 26) (ci := 6) 0 23 rfl rfl (by decide) rfl rfl hi_X6_grows_6 lk_X6_grows_74 dX6_grows_80 ?_
    refine x_iload_n C 2 dX6_grows_83 rfl ?_
    refine x_iconst C (v := (-1)) dX6_grows_84 (by decide) ?_
    obtain ⟨g85, h⟩ := gdB h
    refine x_iast C 22 rfl g85 dX6_grows_85 (wM_s22 cI cZ ad S rest (upd (S 22) x2.toNatClampNeg (-1))) ?_
    exact X_X6_grows_b86 C h hk hr
def X6_grows_L72 (S : St) (x1 x2 : Int32) : Option (St) := wloop (fun a' : (St × Int32 × Int32) => X6_grows_H72 a'.1 a'.2.1 a'.2.2) 1000 (S, x1, x2)
set_option maxHeartbeats 4000000 in
set_option maxRecDepth 100000 in
theorem X_X6_grows_L72 {p : Program} {l : Launch} {e : Env} {s : State} {m : MethodId} {args : Array Value} {below : List Frame} {meth : Method} {c : Code} {D : va_G} {cI cZ cJ : ClassId} {ad : Nat → Nat} {rest w0 : va_W} (C : XC p rm_X6_grows s m args meth c cX6_grows 4 none RX6 wsX6_grows D (t3 cI cZ cJ)) {S : St} {x1 x2 : Int32} {r : St} (h : X6_grows_L72 S x1 x2 = some r) : XW p l e rm_X6_grows s m args below meth c D w0 4 (MQ below (QV D (t3 cI cZ cJ) w0 (wM cI cZ ad r rest) s.heap.size) args s 0 0 (va_A w0 s.heap.size)) (wM cI cZ ad S rest) 0 0 72 [(0, .ref (ad 0)), (1, .int x1), (2, .int x2)] [] :=
  wloop_met (P := (fun a' : (St × Int32 × Int32) => XW p l e rm_X6_grows s m args below meth c D w0 4 (MQ below (QV D (t3 cI cZ cJ) w0 (wM cI cZ ad r rest) s.heap.size) args s 0 0 (va_A w0 s.heap.size)) (wM cI cZ ad a'.1 rest) 0 0 72 [(0, .ref (ad 0)), (1, .int a'.2.1), (2, .int a'.2.2)] [])) (fun _ _ hz hk hr => X_X6_grows_H72 C hz hk hr) 1000 (S, x1, x2) h
def X6_grows_b70 (S : St) (x1 : Int32) : Option (St) :=
  X6_grows_L72 S x1 0
set_option maxHeartbeats 4000000 in
set_option maxRecDepth 100000 in
theorem X_X6_grows_b70 {p : Program} {l : Launch} {e : Env} {s : State} {m : MethodId} {args : Array Value} {below : List Frame} {meth : Method} {c : Code} {D : va_G} {cI cZ cJ : ClassId} {ad : Nat → Nat} {rest w0 : va_W} (C : XC p rm_X6_grows s m args meth c cX6_grows 4 none RX6 wsX6_grows D (t3 cI cZ cJ)) {S : St} {x1 : Int32} {r : St} (h : X6_grows_b70 S x1 = some r) : XW p l e rm_X6_grows s m args below meth c D w0 4 (MQ below (QV D (t3 cI cZ cJ) w0 (wM cI cZ ad r rest) s.heap.size) args s 0 0 (va_A w0 s.heap.size)) (wM cI cZ ad S rest) 0 0 70 [(0, .ref (ad 0)), (1, .int x1)] [] := by
  unfold X6_grows_b70 at h
  refine x_iconst C (v := 0) dX6_grows_70 (by decide) ?_
  refine x_istore_n C (lv' := [(0, .ref (ad 0)), (1, .int x1), (2, .int 0)]) dX6_grows_71 (by decide) rfl ?_
  exact X_X6_grows_L72 C h
def X6_grows_b64 (S : St) (x1 x2 : Int32) : Option ((St × Int32 × Int32) ⊕ (St)) :=
  some (.inl (S, x1, x2 + 1))
set_option maxHeartbeats 4000000 in
set_option maxRecDepth 100000 in
theorem X_X6_grows_b64 {p : Program} {l : Launch} {e : Env} {s : State} {m : MethodId} {args : Array Value} {below : List Frame} {meth : Method} {c : Code} {D : va_G} {cI cZ cJ : ClassId} {ad : Nat → Nat} {rest w0 : va_W} (C : XC p rm_X6_grows s m args meth c cX6_grows 4 none RX6 wsX6_grows D (t3 cI cZ cJ)) {S : St} {x1 x2 : Int32} {z : (St × Int32 × Int32) ⊕ (St)} {r : St} (h : X6_grows_b64 S x1 x2 = some z) (hk : ∀ a' : (St × Int32 × Int32), z = .inl a' → XW p l e rm_X6_grows s m args below meth c D w0 4 (MQ below (QV D (t3 cI cZ cJ) w0 (wM cI cZ ad r rest) s.heap.size) args s 0 0 (va_A w0 s.heap.size)) (wM cI cZ ad a'.1 rest) 0 0 2 [(0, .ref (ad 0)), (1, .int a'.2.1), (2, .int a'.2.2)] []) (hr : ∀ r', z = .inr r' → r' = r) : XW p l e rm_X6_grows s m args below meth c D w0 4 (MQ below (QV D (t3 cI cZ cJ) w0 (wM cI cZ ad r rest) s.heap.size) args s 0 0 (va_A w0 s.heap.size)) (wM cI cZ ad S rest) 0 0 64 [(0, .ref (ad 0)), (1, .int x1), (2, .int x2)] [] := by
  unfold X6_grows_b64 at h
  refine x_iinc C (v := x2 + 1) (lv' := [(0, .ref (ad 0)), (1, .int x1), (2, .int (x2 + 1))]) 2 dX6_grows_64 rfl rfl (by decide) rfl ?_
  refine x_goto C (t := 2) dX6_grows_67 (by decide) ?_
  exact hk _ (Option.some.inj h).symm
def X6_grows_b57 (S : St) (x1 x2 : Int32) : Option ((St × Int32 × Int32) ⊕ (St)) :=
  if inB x2 42 then (X6_grows_b64 (up S 21 (upd (S 21) x2.toNatClampNeg 0)) x1 x2) else none
set_option maxHeartbeats 4000000 in
set_option maxRecDepth 100000 in
theorem X_X6_grows_b57 {p : Program} {l : Launch} {e : Env} {s : State} {m : MethodId} {args : Array Value} {below : List Frame} {meth : Method} {c : Code} {D : va_G} {cI cZ cJ : ClassId} {ad : Nat → Nat} {rest w0 : va_W} (C : XC p rm_X6_grows s m args meth c cX6_grows 4 none RX6 wsX6_grows D (t3 cI cZ cJ)) {S : St} {x1 x2 : Int32} {z : (St × Int32 × Int32) ⊕ (St)} {r : St} (h : X6_grows_b57 S x1 x2 = some z) (hk : ∀ a' : (St × Int32 × Int32), z = .inl a' → XW p l e rm_X6_grows s m args below meth c D w0 4 (MQ below (QV D (t3 cI cZ cJ) w0 (wM cI cZ ad r rest) s.heap.size) args s 0 0 (va_A w0 s.heap.size)) (wM cI cZ ad a'.1 rest) 0 0 2 [(0, .ref (ad 0)), (1, .int a'.2.1), (2, .int a'.2.2)] []) (hr : ∀ r', z = .inr r' → r' = r) : XW p l e rm_X6_grows s m args below meth c D w0 4 (MQ below (QV D (t3 cI cZ cJ) w0 (wM cI cZ ad r rest) s.heap.size) args s 0 0 (va_A w0 s.heap.size)) (wM cI cZ ad S rest) 0 0 57 [(0, .ref (ad 0)), (1, .int x1), (2, .int x2)] [] := by
  unfold X6_grows_b57 at h
  refine x_aload_n C 0 dX6_grows_57 rfl ?_
  refine x_get C (R' := RX6) (T := TX6) (N := 26) (ci := 6) 0 22 rfl rfl (by decide) rfl rfl hi_X6_grows_6 lk_X6_grows_71 dX6_grows_58 ?_
  refine x_iload_n C 2 dX6_grows_61 rfl ?_
  refine x_iconst C (v := 0) dX6_grows_62 (by decide) ?_
  obtain ⟨g63, h⟩ := gdB h
  refine x_iast C 21 rfl g63 dX6_grows_63 (wM_s21 cI cZ ad S rest (upd (S 21) x2.toNatClampNeg 0)) ?_
  exact X_X6_grows_b64 C h hk hr
def X6_grows_b56 (S : St) (x1 x2 s0 s1 : Int32) : Option ((St × Int32 × Int32) ⊕ (St)) :=
  if inB s1 42 then (X6_grows_b57 (up S 20 (upd (S 20) s1.toNatClampNeg s0)) x1 x2) else none
set_option maxHeartbeats 4000000 in
set_option maxRecDepth 100000 in
theorem X_X6_grows_b56 {p : Program} {l : Launch} {e : Env} {s : State} {m : MethodId} {args : Array Value} {below : List Frame} {meth : Method} {c : Code} {D : va_G} {cI cZ cJ : ClassId} {ad : Nat → Nat} {rest w0 : va_W} (C : XC p rm_X6_grows s m args meth c cX6_grows 4 none RX6 wsX6_grows D (t3 cI cZ cJ)) {S : St} {x1 x2 s0 s1 : Int32} {z : (St × Int32 × Int32) ⊕ (St)} {r : St} (h : X6_grows_b56 S x1 x2 s0 s1 = some z) (hk : ∀ a' : (St × Int32 × Int32), z = .inl a' → XW p l e rm_X6_grows s m args below meth c D w0 4 (MQ below (QV D (t3 cI cZ cJ) w0 (wM cI cZ ad r rest) s.heap.size) args s 0 0 (va_A w0 s.heap.size)) (wM cI cZ ad a'.1 rest) 0 0 2 [(0, .ref (ad 0)), (1, .int a'.2.1), (2, .int a'.2.2)] []) (hr : ∀ r', z = .inr r' → r' = r) : XW p l e rm_X6_grows s m args below meth c D w0 4 (MQ below (QV D (t3 cI cZ cJ) w0 (wM cI cZ ad r rest) s.heap.size) args s 0 0 (va_A w0 s.heap.size)) (wM cI cZ ad S rest) 0 0 56 [(0, .ref (ad 0)), (1, .int x1), (2, .int x2)] [.int s0, .int s1, .ref (ad 20)] := by
  unfold X6_grows_b56 at h
  obtain ⟨g56, h⟩ := gdB h
  refine x_iast C 20 rfl g56 dX6_grows_56 (wM_s20 cI cZ ad S rest (upd (S 20) s1.toNatClampNeg s0)) ?_
  exact X_X6_grows_b57 C h hk hr
def X6_grows_b40 (S : St) (x1 x2 : Int32) : Option ((St × Int32 × Int32) ⊕ (St)) :=
  if x2 = 1 then (X6_grows_b56 S x1 x2 99 x2) else (X6_grows_b56 S x1 x2 (-1) x2)
set_option maxHeartbeats 4000000 in
set_option maxRecDepth 100000 in
theorem X_X6_grows_b40 {p : Program} {l : Launch} {e : Env} {s : State} {m : MethodId} {args : Array Value} {below : List Frame} {meth : Method} {c : Code} {D : va_G} {cI cZ cJ : ClassId} {ad : Nat → Nat} {rest w0 : va_W} (C : XC p rm_X6_grows s m args meth c cX6_grows 4 none RX6 wsX6_grows D (t3 cI cZ cJ)) {S : St} {x1 x2 : Int32} {z : (St × Int32 × Int32) ⊕ (St)} {r : St} (h : X6_grows_b40 S x1 x2 = some z) (hk : ∀ a' : (St × Int32 × Int32), z = .inl a' → XW p l e rm_X6_grows s m args below meth c D w0 4 (MQ below (QV D (t3 cI cZ cJ) w0 (wM cI cZ ad r rest) s.heap.size) args s 0 0 (va_A w0 s.heap.size)) (wM cI cZ ad a'.1 rest) 0 0 2 [(0, .ref (ad 0)), (1, .int a'.2.1), (2, .int a'.2.2)] []) (hr : ∀ r', z = .inr r' → r' = r) : XW p l e rm_X6_grows s m args below meth c D w0 4 (MQ below (QV D (t3 cI cZ cJ) w0 (wM cI cZ ad r rest) s.heap.size) args s 0 0 (va_A w0 s.heap.size)) (wM cI cZ ad S rest) 0 0 40 [(0, .ref (ad 0)), (1, .int x1), (2, .int x2)] [] := by
  unfold X6_grows_b40 at h
  refine x_aload_n C 0 dX6_grows_40 rfl ?_
  refine x_get C (R' := RX6) (T := TX6) (N := 26) (ci := 6) 0 21 rfl rfl (by decide) rfl rfl hi_X6_grows_6 lk_X6_grows_68 dX6_grows_41 ?_
  refine x_iload_n C 2 dX6_grows_44 rfl ?_
  refine x_iload_n C 2 dX6_grows_45 rfl ?_
  refine x_iconst C (v := 1) dX6_grows_46 (by decide) ?_
  refine x_icmp_ne C (t := 55) dX6_grows_47 (by decide) (fun c47 => ?_) (fun c47 => ?_)
  · replace h := (if_neg c47).symm.trans h
    refine x_iconst C (v := (-1)) dX6_grows_55 (by decide) ?_
    exact X_X6_grows_b56 C h hk hr
  · replace h := (if_pos c47).symm.trans h
    refine x_bipush C (v := 99) dX6_grows_50 (by decide) ?_
    refine x_goto C (t := 56) dX6_grows_52 (by decide) ?_
    exact X_X6_grows_b56 C h hk hr
def X6_grows_b39 (S : St) (x1 x2 s0 s1 : Int32) : Option ((St × Int32 × Int32) ⊕ (St)) :=
  if inB s1 42 then (X6_grows_b40 (up S 19 (upd (S 19) s1.toNatClampNeg s0)) x1 x2) else none
set_option maxHeartbeats 4000000 in
set_option maxRecDepth 100000 in
theorem X_X6_grows_b39 {p : Program} {l : Launch} {e : Env} {s : State} {m : MethodId} {args : Array Value} {below : List Frame} {meth : Method} {c : Code} {D : va_G} {cI cZ cJ : ClassId} {ad : Nat → Nat} {rest w0 : va_W} (C : XC p rm_X6_grows s m args meth c cX6_grows 4 none RX6 wsX6_grows D (t3 cI cZ cJ)) {S : St} {x1 x2 s0 s1 : Int32} {z : (St × Int32 × Int32) ⊕ (St)} {r : St} (h : X6_grows_b39 S x1 x2 s0 s1 = some z) (hk : ∀ a' : (St × Int32 × Int32), z = .inl a' → XW p l e rm_X6_grows s m args below meth c D w0 4 (MQ below (QV D (t3 cI cZ cJ) w0 (wM cI cZ ad r rest) s.heap.size) args s 0 0 (va_A w0 s.heap.size)) (wM cI cZ ad a'.1 rest) 0 0 2 [(0, .ref (ad 0)), (1, .int a'.2.1), (2, .int a'.2.2)] []) (hr : ∀ r', z = .inr r' → r' = r) : XW p l e rm_X6_grows s m args below meth c D w0 4 (MQ below (QV D (t3 cI cZ cJ) w0 (wM cI cZ ad r rest) s.heap.size) args s 0 0 (va_A w0 s.heap.size)) (wM cI cZ ad S rest) 0 0 39 [(0, .ref (ad 0)), (1, .int x1), (2, .int x2)] [.int s0, .int s1, .ref (ad 19)] := by
  unfold X6_grows_b39 at h
  obtain ⟨g39, h⟩ := gdB h
  refine x_iast C 19 rfl g39 dX6_grows_39 (wM_s19 cI cZ ad S rest (upd (S 19) s1.toNatClampNeg s0)) ?_
  exact X_X6_grows_b40 C h hk hr
def X6_grows_b24 (S : St) (x1 x2 : Int32) : Option ((St × Int32 × Int32) ⊕ (St)) :=
  if x2 = 1 then (X6_grows_b39 S x1 x2 0 x2) else (X6_grows_b39 S x1 x2 (-1) x2)
set_option maxHeartbeats 4000000 in
set_option maxRecDepth 100000 in
theorem X_X6_grows_b24 {p : Program} {l : Launch} {e : Env} {s : State} {m : MethodId} {args : Array Value} {below : List Frame} {meth : Method} {c : Code} {D : va_G} {cI cZ cJ : ClassId} {ad : Nat → Nat} {rest w0 : va_W} (C : XC p rm_X6_grows s m args meth c cX6_grows 4 none RX6 wsX6_grows D (t3 cI cZ cJ)) {S : St} {x1 x2 : Int32} {z : (St × Int32 × Int32) ⊕ (St)} {r : St} (h : X6_grows_b24 S x1 x2 = some z) (hk : ∀ a' : (St × Int32 × Int32), z = .inl a' → XW p l e rm_X6_grows s m args below meth c D w0 4 (MQ below (QV D (t3 cI cZ cJ) w0 (wM cI cZ ad r rest) s.heap.size) args s 0 0 (va_A w0 s.heap.size)) (wM cI cZ ad a'.1 rest) 0 0 2 [(0, .ref (ad 0)), (1, .int a'.2.1), (2, .int a'.2.2)] []) (hr : ∀ r', z = .inr r' → r' = r) : XW p l e rm_X6_grows s m args below meth c D w0 4 (MQ below (QV D (t3 cI cZ cJ) w0 (wM cI cZ ad r rest) s.heap.size) args s 0 0 (va_A w0 s.heap.size)) (wM cI cZ ad S rest) 0 0 24 [(0, .ref (ad 0)), (1, .int x1), (2, .int x2)] [] := by
  unfold X6_grows_b24 at h
  refine x_aload_n C 0 dX6_grows_24 rfl ?_
  refine x_get C (R' := RX6) (T := TX6) (N := 26) (ci := 6) 0 20 rfl rfl (by decide) rfl rfl hi_X6_grows_6 lk_X6_grows_65 dX6_grows_25 ?_
  refine x_iload_n C 2 dX6_grows_28 rfl ?_
  refine x_iload_n C 2 dX6_grows_29 rfl ?_
  refine x_iconst C (v := 1) dX6_grows_30 (by decide) ?_
  refine x_icmp_ne C (t := 38) dX6_grows_31 (by decide) (fun c31 => ?_) (fun c31 => ?_)
  · replace h := (if_neg c31).symm.trans h
    refine x_iconst C (v := (-1)) dX6_grows_38 (by decide) ?_
    exact X_X6_grows_b39 C h hk hr
  · replace h := (if_pos c31).symm.trans h
    refine x_iconst C (v := 0) dX6_grows_34 (by decide) ?_
    refine x_goto C (t := 39) dX6_grows_35 (by decide) ?_
    exact X_X6_grows_b39 C h hk hr
def X6_grows_b23 (S : St) (x1 x2 s0 s1 : Int32) : Option ((St × Int32 × Int32) ⊕ (St)) :=
  if inB s1 42 then (X6_grows_b24 (up S 18 (upd (S 18) s1.toNatClampNeg (vp_nar .boolean s0))) x1 x2) else none
set_option maxHeartbeats 4000000 in
set_option maxRecDepth 100000 in
theorem X_X6_grows_b23 {p : Program} {l : Launch} {e : Env} {s : State} {m : MethodId} {args : Array Value} {below : List Frame} {meth : Method} {c : Code} {D : va_G} {cI cZ cJ : ClassId} {ad : Nat → Nat} {rest w0 : va_W} (C : XC p rm_X6_grows s m args meth c cX6_grows 4 none RX6 wsX6_grows D (t3 cI cZ cJ)) {S : St} {x1 x2 s0 s1 : Int32} {z : (St × Int32 × Int32) ⊕ (St)} {r : St} (h : X6_grows_b23 S x1 x2 s0 s1 = some z) (hk : ∀ a' : (St × Int32 × Int32), z = .inl a' → XW p l e rm_X6_grows s m args below meth c D w0 4 (MQ below (QV D (t3 cI cZ cJ) w0 (wM cI cZ ad r rest) s.heap.size) args s 0 0 (va_A w0 s.heap.size)) (wM cI cZ ad a'.1 rest) 0 0 2 [(0, .ref (ad 0)), (1, .int a'.2.1), (2, .int a'.2.2)] []) (hr : ∀ r', z = .inr r' → r' = r) : XW p l e rm_X6_grows s m args below meth c D w0 4 (MQ below (QV D (t3 cI cZ cJ) w0 (wM cI cZ ad r rest) s.heap.size) args s 0 0 (va_A w0 s.heap.size)) (wM cI cZ ad S rest) 0 0 23 [(0, .ref (ad 0)), (1, .int x1), (2, .int x2)] [.int s0, .int s1, .ref (ad 18)] := by
  unfold X6_grows_b23 at h
  obtain ⟨g23, h⟩ := gdB h
  refine x_zast C 18 rfl g23 dX6_grows_23 (wM_s18 cI cZ ad S rest (upd (S 18) s1.toNatClampNeg (vp_nar .boolean s0))) ?_
  exact X_X6_grows_b24 C h hk hr
def X6_grows_H2 (S : St) (x1 x2 : Int32) : Option ((St × Int32 × Int32) ⊕ (St)) :=
  if 42 ≤ x2 then (exI (X6_grows_b70 S x1)) else (if 2 ≤ x2 then (X6_grows_b23 S x1 x2 0 x2) else (X6_grows_b23 S x1 x2 1 x2))
set_option maxHeartbeats 4000000 in
set_option maxRecDepth 100000 in
theorem X_X6_grows_H2 {p : Program} {l : Launch} {e : Env} {s : State} {m : MethodId} {args : Array Value} {below : List Frame} {meth : Method} {c : Code} {D : va_G} {cI cZ cJ : ClassId} {ad : Nat → Nat} {rest w0 : va_W} (C : XC p rm_X6_grows s m args meth c cX6_grows 4 none RX6 wsX6_grows D (t3 cI cZ cJ)) {S : St} {x1 x2 : Int32} {z : (St × Int32 × Int32) ⊕ (St)} {r : St} (h : X6_grows_H2 S x1 x2 = some z) (hk : ∀ a' : (St × Int32 × Int32), z = .inl a' → XW p l e rm_X6_grows s m args below meth c D w0 4 (MQ below (QV D (t3 cI cZ cJ) w0 (wM cI cZ ad r rest) s.heap.size) args s 0 0 (va_A w0 s.heap.size)) (wM cI cZ ad a'.1 rest) 0 0 2 [(0, .ref (ad 0)), (1, .int a'.2.1), (2, .int a'.2.2)] []) (hr : ∀ r', z = .inr r' → r' = r) : XW p l e rm_X6_grows s m args below meth c D w0 4 (MQ below (QV D (t3 cI cZ cJ) w0 (wM cI cZ ad r rest) s.heap.size) args s 0 0 (va_A w0 s.heap.size)) (wM cI cZ ad S rest) 0 0 2 [(0, .ref (ad 0)), (1, .int x1), (2, .int x2)] [] := by
  unfold X6_grows_H2 at h
  refine x_iload_n C 2 dX6_grows_2 rfl ?_
  refine x_bipush C (v := 42) dX6_grows_3 (by decide) ?_
  refine x_icmp_ge C (t := 70) dX6_grows_5 (by decide) (fun c5 => ?_) (fun c5 => ?_)
  · replace h := (if_pos c5).symm.trans h
    refine x_locals (lv' := [(0, .ref (ad 0)), (1, .int x1)]) [0, 1] rfl ?_
    obtain ⟨r1, h1, h2⟩ := exI_some h
    obtain rfl := hr r1 h2
    exact X_X6_grows_b70 C h1
  · replace h := (if_neg c5).symm.trans h
    refine x_aload_n C 0 dX6_grows_8 rfl ?_
    refine x_get C (R' := RX6) (T := TX6) (N := 26) (ci := 6) 0 19 rfl rfl (by decide) rfl rfl hi_X6_grows_6 lk_X6_grows_62 dX6_grows_9 ?_
    refine x_iload_n C 2 dX6_grows_12 rfl ?_
    refine x_iload_n C 2 dX6_grows_13 rfl ?_
    refine x_iconst C (v := 2) dX6_grows_14 (by decide) ?_
    refine x_icmp_ge C (t := 22) dX6_grows_15 (by decide) (fun c15 => ?_) (fun c15 => ?_)
    · replace h := (if_pos c15).symm.trans h
      refine x_iconst C (v := 0) dX6_grows_22 (by decide) ?_
      exact X_X6_grows_b23 C h hk hr
    · replace h := (if_neg c15).symm.trans h
      refine x_iconst C (v := 1) dX6_grows_18 (by decide) ?_
      refine x_goto C (t := 23) dX6_grows_19 (by decide) ?_
      exact X_X6_grows_b23 C h hk hr
def X6_grows_L2 (S : St) (x1 x2 : Int32) : Option (St) := wloop (fun a' : (St × Int32 × Int32) => X6_grows_H2 a'.1 a'.2.1 a'.2.2) 1000 (S, x1, x2)
set_option maxHeartbeats 4000000 in
set_option maxRecDepth 100000 in
theorem X_X6_grows_L2 {p : Program} {l : Launch} {e : Env} {s : State} {m : MethodId} {args : Array Value} {below : List Frame} {meth : Method} {c : Code} {D : va_G} {cI cZ cJ : ClassId} {ad : Nat → Nat} {rest w0 : va_W} (C : XC p rm_X6_grows s m args meth c cX6_grows 4 none RX6 wsX6_grows D (t3 cI cZ cJ)) {S : St} {x1 x2 : Int32} {r : St} (h : X6_grows_L2 S x1 x2 = some r) : XW p l e rm_X6_grows s m args below meth c D w0 4 (MQ below (QV D (t3 cI cZ cJ) w0 (wM cI cZ ad r rest) s.heap.size) args s 0 0 (va_A w0 s.heap.size)) (wM cI cZ ad S rest) 0 0 2 [(0, .ref (ad 0)), (1, .int x1), (2, .int x2)] [] :=
  wloop_met (P := (fun a' : (St × Int32 × Int32) => XW p l e rm_X6_grows s m args below meth c D w0 4 (MQ below (QV D (t3 cI cZ cJ) w0 (wM cI cZ ad r rest) s.heap.size) args s 0 0 (va_A w0 s.heap.size)) (wM cI cZ ad a'.1 rest) 0 0 2 [(0, .ref (ad 0)), (1, .int a'.2.1), (2, .int a'.2.2)] [])) (fun _ _ hz hk hr => X_X6_grows_H2 C hz hk hr) 1000 (S, x1, x2) h
def X6_grows (S : St) (x1 : Int32) : Option (St) :=
  X6_grows_L2 S x1 0
set_option maxHeartbeats 4000000 in
set_option maxRecDepth 100000 in
theorem X_X6_grows {p : Program} {l : Launch} {e : Env} {s : State} {m : MethodId} {args : Array Value} {below : List Frame} {meth : Method} {c : Code} {D : va_G} {cI cZ cJ : ClassId} {ad : Nat → Nat} {rest w0 : va_W} (C : XC p rm_X6_grows s m args meth c cX6_grows 4 none RX6 wsX6_grows D (t3 cI cZ cJ)) {S : St} {x1 : Int32} {r : St} (h : X6_grows S x1 = some r) : XW p l e rm_X6_grows s m args below meth c D w0 4 (MQ below (QV D (t3 cI cZ cJ) w0 (wM cI cZ ad r rest) s.heap.size) args s 0 0 (va_A w0 s.heap.size)) (wM cI cZ ad S rest) 0 0 0 [(0, .ref (ad 0)), (1, .int x1)] [] := by
  unfold X6_grows at h
  refine x_iconst C (v := 0) dX6_grows_0 (by decide) ?_
  refine x_istore_n C (lv' := [(0, .ref (ad 0)), (1, .int x1), (2, .int 0)]) dX6_grows_1 (by decide) rfl ?_
  exact X_X6_grows_L2 C h
set_option maxRecDepth 100000 in
theorem c_X6_grows {l : Launch} {D : va_G} {cI cZ cJ : ClassId} {ad : Nat → Nat} {S : St} {rest : va_W} {x1 : Int32} {r : St} (h : X6_grows S x1 = some r) : ∀ sz, Met l yX6_grows wsX6_grows rm_X6_grows (PC D (t3 cI cZ cJ) [.ref (ad 0), .int x1] (wM cI cZ ad S rest) sz) (QV D (t3 cI cZ cJ) (wM cI cZ ad S rest) (wM cI cZ ad r rest) sz) 0 0 (va_A (wM cI cZ ad S rest) sz) := by
  refine x_met (Qc := fun sz => QV D (t3 cI cZ cJ) (wM cI cZ ad S rest) (wM cI cZ ad r rest) sz) RX6 rfl (by decide) rfl (Nat.le_of_ble_eq_true rfl) (fun p e s m args below meth c C => ?_)
  exact X_X6_grows C h
/-! EntryMastersModel.isHere(II)Z -/
abbrev rm_X6_isHere : Room := { frames := 5, cells := 0, slots := 0, locals := 114 }
theorem hi_X6_isHere_6 : ∀ z ∈ u_ws RX6 TX6 26, z ∈ wsX6_isHere := by decide +kernel
theorem lk_X6_isHere_62 : Cond.fieldLink RX6 62 RX6 "there" "[Z" ∈ wsX6_isHere := by decide +kernel
theorem cw_X6_isHere_X6_grows_124 {p : Program} {s : State} {m : MethodId} {args : Array Value} {meth : Method} {c : Code} {D : va_G} {tys : List (ClassId × FieldType)} {R : Room} (C : XC p R s m args meth c cX6_isHere 3 (some .boolean) RX6 wsX6_isHere D tys) : CallW rm_X6_isHere s args RX6 RX6 124 yX6_grows cX6_grows 4 none wsX6_grows rm_X6_grows 0 0 1 := cwV 1 C.2.2.2.2.1 gX6_isHere_X6_grows rfl rfl rfl (by decide +kernel) ⟨Nat.le_of_ble_eq_true rfl, Nat.le_of_ble_eq_true rfl⟩
theorem cw_X6_isHere_X6_isIn_84 {p : Program} {s : State} {m : MethodId} {args : Array Value} {meth : Method} {c : Code} {D : va_G} {tys : List (ClassId × FieldType)} {R : Room} (C : XC p R s m args meth c cX6_isHere 3 (some .boolean) RX6 wsX6_isHere D tys) : CallB rm_X6_isHere s args RX6 84 yX6_isIn cX6_isIn 3 (some .boolean) wsX6_isIn rm_X6_isIn 0 0 3 ∧ (Cond.static yX6_isIn).before args s = true := va_cwS 3 C.2.2.2.2.1 gX6_isHere_X6_isIn rfl rfl rfl (by decide +kernel) ⟨Nat.le_of_ble_eq_true rfl, Nat.le_of_ble_eq_true rfl⟩
theorem cw_X6_isHere_X6_isMaster_120 {p : Program} {s : State} {m : MethodId} {args : Array Value} {meth : Method} {c : Code} {D : va_G} {tys : List (ClassId × FieldType)} {R : Room} (C : XC p R s m args meth c cX6_isHere 3 (some .boolean) RX6 wsX6_isHere D tys) : CallB rm_X6_isHere s args RX6 120 yX6_isMaster cX6_isMaster 1 (some .boolean) wsX6_isMaster rm_X6_isMaster 0 0 1 ∧ (Cond.static yX6_isMaster).before args s = true := va_cwS 1 C.2.2.2.2.1 gX6_isHere_X6_isMaster rfl rfl rfl (by decide +kernel) ⟨Nat.le_of_ble_eq_true rfl, Nat.le_of_ble_eq_true rfl⟩
def X6_isHere_b38 (S : St) (s0 : Int32) : Option (Int32 × St) :=
  if s0 &&& 1 = s0 then (some (s0, S)) else none
set_option maxHeartbeats 4000000 in
set_option maxRecDepth 100000 in
theorem X_X6_isHere_b38 {p : Program} {l : Launch} {e : Env} {s : State} {m : MethodId} {args : Array Value} {below : List Frame} {meth : Method} {c : Code} {D : va_G} {cI cZ cJ : ClassId} {ad : Nat → Nat} {rest w0 : va_W} (C : XC p rm_X6_isHere s m args meth c cX6_isHere 3 (some .boolean) RX6 wsX6_isHere D (t3 cI cZ cJ)) {S : St} {s0 : Int32} {r : Int32 × St} (h : X6_isHere_b38 S s0 = some r) : XW p l e rm_X6_isHere s m args below meth c D w0 3 (MQ below (QI D (t3 cI cZ cJ) w0 (wM cI cZ ad r.2 rest) s.heap.size r.1) args s 0 0 (va_A w0 s.heap.size)) (wM cI cZ ad S rest) 0 0 38 [] [.int s0] := by
  unfold X6_isHere_b38 at h
  obtain ⟨g38, h⟩ := gd h
  obtain rfl := Option.some.inj h
  exact x_zret C g38 dX6_isHere_38
def X6_isHere_b37 (S : St) : Option (Int32 × St) :=
  X6_isHere_b38 S 0
set_option maxHeartbeats 4000000 in
set_option maxRecDepth 100000 in
theorem X_X6_isHere_b37 {p : Program} {l : Launch} {e : Env} {s : State} {m : MethodId} {args : Array Value} {below : List Frame} {meth : Method} {c : Code} {D : va_G} {cI cZ cJ : ClassId} {ad : Nat → Nat} {rest w0 : va_W} (C : XC p rm_X6_isHere s m args meth c cX6_isHere 3 (some .boolean) RX6 wsX6_isHere D (t3 cI cZ cJ)) {S : St} {r : Int32 × St} (h : X6_isHere_b37 S = some r) : XW p l e rm_X6_isHere s m args below meth c D w0 3 (MQ below (QI D (t3 cI cZ cJ) w0 (wM cI cZ ad r.2 rest) s.heap.size r.1) args s 0 0 (va_A w0 s.heap.size)) (wM cI cZ ad S rest) 0 0 37 [] [] := by
  unfold X6_isHere_b37 at h
  refine x_iconst C (v := 0) dX6_isHere_37 (by decide) ?_
  exact X_X6_isHere_b38 C h
def X6_isHere_b14 (S : St) (x2 : Int32) : Option (Int32 × St) :=
  (X6_isIn x2 0 41).bind fun v18 => if v18 = 0 then (X6_isHere_b37 S) else (if inB x2 42 then (if (S 18 x2.toNatClampNeg) = 0 then (X6_isHere_b37 S) else (X6_isHere_b38 S 1)) else none)
set_option maxHeartbeats 4000000 in
set_option maxRecDepth 100000 in
theorem X_X6_isHere_b14 {p : Program} {l : Launch} {e : Env} {s : State} {m : MethodId} {args : Array Value} {below : List Frame} {meth : Method} {c : Code} {D : va_G} {cI cZ cJ : ClassId} {ad : Nat → Nat} {rest w0 : va_W} (C : XC p rm_X6_isHere s m args meth c cX6_isHere 3 (some .boolean) RX6 wsX6_isHere D (t3 cI cZ cJ)) {S : St} {x2 : Int32} {r : Int32 × St} (h : X6_isHere_b14 S x2 = some r) : XW p l e rm_X6_isHere s m args below meth c D w0 3 (MQ below (QI D (t3 cI cZ cJ) w0 (wM cI cZ ad r.2 rest) s.heap.size r.1) args s 0 0 (va_A w0 s.heap.size)) (wM cI cZ ad S rest) 0 0 14 [(0, .ref (ad 0)), (2, .int x2)] [] := by
  unfold X6_isHere_b14 at h
  refine x_iload_n C 1 dX6_isHere_14 rfl ?_
  refine x_iconst C (v := 0) dX6_isHere_15 (by decide) ?_
  refine x_bipush C (v := 41) dX6_isHere_16 (by decide) ?_
  obtain ⟨v18, hg18, h⟩ := ob h
  refine x_ci0 (x_runS C (As := [.int x2, .int 0, .int 41]) (rest := []) (c_X6_isIn hg18) (cw_X6_isHere_X6_isIn_84 C) rfl (Nat.le_of_ble_eq_true rfl) dX6_isHere_18 ⟨Nat.zero_le _, Nat.zero_le _⟩) ?_
  refine x_if_eq C (t := 37) dX6_isHere_21 (by decide) (fun c21 => ?_) (fun c21 => ?_)
  · replace h := (if_pos c21).symm.trans h
    refine x_locals (lv' := []) [] rfl ?_
    exact X_X6_isHere_b37 C h
  · replace h := (if_neg c21).symm.trans h
    refine x_aload_n C 0 dX6_isHere_24 rfl ?_
    refine x_get C (R' := RX6) (T := TX6) (N := 26) (ci := 6) 0 19 rfl rfl (by decide) rfl rfl hi_X6_isHere_6 lk_X6_isHere_62 dX6_isHere_25 ?_
    refine x_iload_n C 1 dX6_isHere_28 rfl ?_
    obtain ⟨g29, h⟩ := gdB h
    refine x_zald C 18 rfl g29 dX6_isHere_29 ?_
    refine x_if_eq C (t := 37) dX6_isHere_30 (by decide) (fun c30 => ?_) (fun c30 => ?_)
    · replace h := (if_pos c30).symm.trans h
      refine x_locals (lv' := []) [] rfl ?_
      exact X_X6_isHere_b37 C h
    · replace h := (if_neg c30).symm.trans h
      refine x_iconst C (v := 1) dX6_isHere_33 (by decide) ?_
      refine x_goto C (t := 38) dX6_isHere_34 (by decide) ?_
      refine x_locals (lv' := []) [] rfl ?_
      exact X_X6_isHere_b38 C h
def X6_isHere (S : St) (x1 x2 : Int32) : Option (Int32 × St) :=
  (X6_isMaster x1).bind fun v1 => if v1 = 0 then (some (0, S)) else ((X6_grows S x1).bind fun S11 => X6_isHere_b14 S11 x2)
set_option maxHeartbeats 4000000 in
set_option maxRecDepth 100000 in
theorem X_X6_isHere {p : Program} {l : Launch} {e : Env} {s : State} {m : MethodId} {args : Array Value} {below : List Frame} {meth : Method} {c : Code} {D : va_G} {cI cZ cJ : ClassId} {ad : Nat → Nat} {rest w0 : va_W} (C : XC p rm_X6_isHere s m args meth c cX6_isHere 3 (some .boolean) RX6 wsX6_isHere D (t3 cI cZ cJ)) {S : St} {x1 x2 : Int32} {r : Int32 × St} (h : X6_isHere S x1 x2 = some r) : XW p l e rm_X6_isHere s m args below meth c D w0 3 (MQ below (QI D (t3 cI cZ cJ) w0 (wM cI cZ ad r.2 rest) s.heap.size r.1) args s 0 0 (va_A w0 s.heap.size)) (wM cI cZ ad S rest) 0 0 0 [(0, .ref (ad 0)), (1, .int x1), (2, .int x2)] [] := by
  unfold X6_isHere at h
  refine x_iload_n C 1 dX6_isHere_0 rfl ?_
  obtain ⟨v1, hg1, h⟩ := ob h
  refine x_ci0 (x_runS C (As := [.int x1]) (rest := []) (c_X6_isMaster hg1) (cw_X6_isHere_X6_isMaster_120 C) rfl (Nat.le_of_ble_eq_true rfl) dX6_isHere_1 ⟨Nat.zero_le _, Nat.zero_le _⟩) ?_
  refine x_if_ne C (t := 9) dX6_isHere_4 (by decide) (fun c4 => ?_) (fun c4 => ?_)
  · replace h := (if_neg c4).symm.trans h
    refine x_aload_n C 0 dX6_isHere_9 rfl ?_
    refine x_iload_n C 1 dX6_isHere_10 rfl ?_
    obtain ⟨S11, hg11, h⟩ := ob h
    refine x_cv0 (x_runV C (As := [.int x1]) (rest := []) (c_X6_grows hg11) (cw_X6_isHere_X6_grows_124 C) 0 rfl rfl rfl (Nat.le_of_ble_eq_true rfl) dX6_isHere_11 ⟨Nat.zero_le _, Nat.zero_le _⟩) ?_
    refine x_locals (lv' := [(0, .ref (ad 0)), (2, .int x2)]) [0, 2] rfl ?_
    exact X_X6_isHere_b14 C h
  · replace h := (if_pos c4).symm.trans h
    refine x_iconst C (v := 0) dX6_isHere_7 (by decide) ?_
    obtain rfl := Option.some.inj h
    exact x_zret C (v := 0) (by decide) dX6_isHere_8
set_option maxRecDepth 100000 in
theorem c_X6_isHere {l : Launch} {D : va_G} {cI cZ cJ : ClassId} {ad : Nat → Nat} {S : St} {rest : va_W} {x1 x2 : Int32} {r : Int32 × St} (h : X6_isHere S x1 x2 = some r) : ∀ sz, Met l yX6_isHere wsX6_isHere rm_X6_isHere (PC D (t3 cI cZ cJ) [.ref (ad 0), .int x1, .int x2] (wM cI cZ ad S rest) sz) (QI D (t3 cI cZ cJ) (wM cI cZ ad S rest) (wM cI cZ ad r.2 rest) sz r.1) 0 0 (va_A (wM cI cZ ad S rest) sz) := by
  refine x_met (Qc := fun sz => QI D (t3 cI cZ cJ) (wM cI cZ ad S rest) (wM cI cZ ad r.2 rest) sz r.1) RX6 rfl (by decide) rfl (Nat.le_of_ble_eq_true rfl) (fun p e s m args below meth c C => ?_)
  exact X_X6_isHere C h
/-! EntryMastersModel.made(III)I -/
abbrev rm_X6_made : Room := { frames := 1, cells := 0, slots := 0, locals := 22 }
theorem hi_X6_made_6 : ∀ z ∈ u_ws RX6 TX6 26, z ∈ wsX6_made := by decide +kernel
theorem lk_X6_made_16 : Cond.fieldLink RX6 16 RX6 "kind" "[I" ∈ wsX6_made := by decide +kernel
theorem lk_X6_made_19 : Cond.fieldLink RX6 19 RX6 "entry" "[I" ∈ wsX6_made := by decide +kernel
theorem lk_X6_made_34 : Cond.fieldLink RX6 34 RX6 "time" "[I" ∈ wsX6_made := by decide +kernel
theorem lk_X6_made_37 : Cond.fieldLink RX6 37 RX6 "maker" "[I" ∈ wsX6_made := by decide +kernel
theorem lk_X6_made_40 : Cond.fieldLink RX6 40 RX6 "known" "[I" ∈ wsX6_made := by decide +kernel
theorem lk_X6_made_88 : Cond.fieldLink RX6 88 RX6 "changes" "I" ∈ wsX6_made := by decide +kernel
theorem cw_X6_made_X6_knows_109 {p : Program} {s : State} {m : MethodId} {args : Array Value} {meth : Method} {c : Code} {D : va_G} {tys : List (ClassId × FieldType)} {R : Room} (C : XC p R s m args meth c cX6_made 6 (some .int) RX6 wsX6_made D tys) : CallW rm_X6_made s args RX6 RX6 109 yX6_knows cX6_knows 3 (some .boolean) wsX6_knows rm_X6_knows 0 0 2 := cwV 2 C.2.2.2.2.1 gX6_made_X6_knows rfl rfl rfl (by decide +kernel) ⟨Nat.le_of_ble_eq_true rfl, Nat.le_of_ble_eq_true rfl⟩
def X6_made_b122 (S : St) : Option (Int32 × St) :=
  some ((S 0 2) - 1, S)
set_option maxHeartbeats 4000000 in
set_option maxRecDepth 100000 in
theorem X_X6_made_b122 {p : Program} {l : Launch} {e : Env} {s : State} {m : MethodId} {args : Array Value} {below : List Frame} {meth : Method} {c : Code} {D : va_G} {cI cZ cJ : ClassId} {ad : Nat → Nat} {rest w0 : va_W} (C : XC p rm_X6_made s m args meth c cX6_made 6 (some .int) RX6 wsX6_made D (t3 cI cZ cJ)) {S : St} {r : Int32 × St} (h : X6_made_b122 S = some r) : XW p l e rm_X6_made s m args below meth c D w0 6 (MQ below (QI D (t3 cI cZ cJ) w0 (wM cI cZ ad r.2 rest) s.heap.size r.1) args s 0 0 (va_A w0 s.heap.size)) (wM cI cZ ad S rest) 0 0 122 [(0, .ref (ad 0))] [] := by
  unfold X6_made_b122 at h
  refine x_aload_n C 0 dX6_made_122 rfl ?_
  refine x_get C (R' := RX6) (T := TX6) (N := 26) (ci := 6) 0 2 rfl rfl (by decide) rfl rfl hi_X6_made_6 lk_X6_made_88 dX6_made_123 ?_
  refine x_iconst C (v := 1) dX6_made_126 (by decide) ?_
  refine x_isub C dX6_made_127 ?_
  obtain rfl := Option.some.inj h
  exact x_iret C dX6_made_128
def X6_made_b112 (S : St) : Option (Int32 × St) :=
  X6_made_b122 (up S 0 (upd (S 0) 2 ((S 0 2) + 1)))
set_option maxHeartbeats 4000000 in
set_option maxRecDepth 100000 in
theorem X_X6_made_b112 {p : Program} {l : Launch} {e : Env} {s : State} {m : MethodId} {args : Array Value} {below : List Frame} {meth : Method} {c : Code} {D : va_G} {cI cZ cJ : ClassId} {ad : Nat → Nat} {rest w0 : va_W} (C : XC p rm_X6_made s m args meth c cX6_made 6 (some .int) RX6 wsX6_made D (t3 cI cZ cJ)) {S : St} {r : Int32 × St} (h : X6_made_b112 S = some r) : XW p l e rm_X6_made s m args below meth c D w0 6 (MQ below (QI D (t3 cI cZ cJ) w0 (wM cI cZ ad r.2 rest) s.heap.size r.1) args s 0 0 (va_A w0 s.heap.size)) (wM cI cZ ad S rest) 0 0 112 [(0, .ref (ad 0))] [] := by
  unfold X6_made_b112 at h
  refine x_aload_n C 0 dX6_made_112 rfl ?_
  refine x_dup C dX6_made_113 rfl ?_
  refine x_get C (R' := RX6) (T := TX6) (N := 26) (ci := 6) 0 2 rfl rfl (by decide) rfl rfl hi_X6_made_6 lk_X6_made_88 dX6_made_114 ?_
  refine x_iconst C (v := 1) dX6_made_117 (by decide) ?_
  refine x_iadd C dX6_made_118 ?_
  refine x_put C (R' := RX6) (T := TX6) (N := 26) (ci := 6) tyX6 tyX6_ok nmX6 0 2 rfl rfl (by decide) rfl rfl (lt_ble rfl) rfl hi_X6_made_6 lk_X6_made_88 dX6_made_119 (wM_f0_2 cI cZ ad S rest ((S 0 2) + 1)) ?_
  exact X_X6_made_b122 C h
def X6_made_b100 (S : St) (x1 : Int32) : Option (Int32 × St) :=
  if inB (S 0 2) 40 then (X6_made_b112 (up S 11 (upd (S 11) (S 0 2).toNatClampNeg (1 <<< (x1 &&& 31))))) else none
set_option maxHeartbeats 4000000 in
set_option maxRecDepth 100000 in
theorem X_X6_made_b100 {p : Program} {l : Launch} {e : Env} {s : State} {m : MethodId} {args : Array Value} {below : List Frame} {meth : Method} {c : Code} {D : va_G} {cI cZ cJ : ClassId} {ad : Nat → Nat} {rest w0 : va_W} (C : XC p rm_X6_made s m args meth c cX6_made 6 (some .int) RX6 wsX6_made D (t3 cI cZ cJ)) {S : St} {x1 : Int32} {r : Int32 × St} (h : X6_made_b100 S x1 = some r) : XW p l e rm_X6_made s m args below meth c D w0 6 (MQ below (QI D (t3 cI cZ cJ) w0 (wM cI cZ ad r.2 rest) s.heap.size r.1) args s 0 0 (va_A w0 s.heap.size)) (wM cI cZ ad S rest) 0 0 100 [(0, .ref (ad 0)), (1, .int x1)] [] := by
  unfold X6_made_b100 at h
  refine x_aload_n C 0 dX6_made_100 rfl ?_
  refine x_get C (R' := RX6) (T := TX6) (N := 26) (ci := 6) 0 11 rfl rfl (by decide) rfl rfl hi_X6_made_6 lk_X6_made_40 dX6_made_101 ?_
  refine x_aload_n C 0 dX6_made_104 rfl ?_
  refine x_get C (R' := RX6) (T := TX6) (N := 26) (ci := 6) 0 2 rfl rfl (by decide) rfl rfl hi_X6_made_6 lk_X6_made_88 dX6_made_105 ?_
  refine x_iconst C (v := 1) dX6_made_108 (by decide) ?_
  refine x_iload_n C 1 dX6_made_109 rfl ?_
  refine x_ishl C dX6_made_110 ?_
  obtain ⟨g111, h⟩ := gdB h
  refine x_iast C 11 rfl g111 dX6_made_111 (wM_s11 cI cZ ad S rest (upd (S 11) (S 0 2).toNatClampNeg (1 <<< (x1 &&& 31)))) ?_
  refine x_locals (lv' := [(0, .ref (ad 0))]) [0] rfl ?_
  exact X_X6_made_b112 C h
def X6_made_b90 (S : St) (x1 : Int32) : Option (Int32 × St) :=
  if inB (S 0 2) 40 then (X6_made_b100 (up S 10 (upd (S 10) (S 0 2).toNatClampNeg x1)) x1) else none
set_option maxHeartbeats 4000000 in
set_option maxRecDepth 100000 in
theorem X_X6_made_b90 {p : Program} {l : Launch} {e : Env} {s : State} {m : MethodId} {args : Array Value} {below : List Frame} {meth : Method} {c : Code} {D : va_G} {cI cZ cJ : ClassId} {ad : Nat → Nat} {rest w0 : va_W} (C : XC p rm_X6_made s m args meth c cX6_made 6 (some .int) RX6 wsX6_made D (t3 cI cZ cJ)) {S : St} {x1 : Int32} {r : Int32 × St} (h : X6_made_b90 S x1 = some r) : XW p l e rm_X6_made s m args below meth c D w0 6 (MQ below (QI D (t3 cI cZ cJ) w0 (wM cI cZ ad r.2 rest) s.heap.size r.1) args s 0 0 (va_A w0 s.heap.size)) (wM cI cZ ad S rest) 0 0 90 [(0, .ref (ad 0)), (1, .int x1)] [] := by
  unfold X6_made_b90 at h
  refine x_aload_n C 0 dX6_made_90 rfl ?_
  refine x_get C (R' := RX6) (T := TX6) (N := 26) (ci := 6) 0 10 rfl rfl (by decide) rfl rfl hi_X6_made_6 lk_X6_made_37 dX6_made_91 ?_
  refine x_aload_n C 0 dX6_made_94 rfl ?_
  refine x_get C (R' := RX6) (T := TX6) (N := 26) (ci := 6) 0 2 rfl rfl (by decide) rfl rfl hi_X6_made_6 lk_X6_made_88 dX6_made_95 ?_
  refine x_iload_n C 1 dX6_made_98 rfl ?_
  obtain ⟨g99, h⟩ := gdB h
  refine x_iast C 10 rfl g99 dX6_made_99 (wM_s10 cI cZ ad S rest (upd (S 10) (S 0 2).toNatClampNeg x1)) ?_
  exact X_X6_made_b100 C h
def X6_made_b77 (S : St) (x1 x4 : Int32) : Option (Int32 × St) :=
  if inB (S 0 2) 40 then (X6_made_b90 (up S 9 (upd (S 9) (S 0 2).toNatClampNeg (x4 + 1))) x1) else none
set_option maxHeartbeats 4000000 in
set_option maxRecDepth 100000 in
theorem X_X6_made_b77 {p : Program} {l : Launch} {e : Env} {s : State} {m : MethodId} {args : Array Value} {below : List Frame} {meth : Method} {c : Code} {D : va_G} {cI cZ cJ : ClassId} {ad : Nat → Nat} {rest w0 : va_W} (C : XC p rm_X6_made s m args meth c cX6_made 6 (some .int) RX6 wsX6_made D (t3 cI cZ cJ)) {S : St} {x1 x4 : Int32} {r : Int32 × St} (h : X6_made_b77 S x1 x4 = some r) : XW p l e rm_X6_made s m args below meth c D w0 6 (MQ below (QI D (t3 cI cZ cJ) w0 (wM cI cZ ad r.2 rest) s.heap.size r.1) args s 0 0 (va_A w0 s.heap.size)) (wM cI cZ ad S rest) 0 0 77 [(0, .ref (ad 0)), (1, .int x1), (4, .int x4)] [] := by
  unfold X6_made_b77 at h
  refine x_aload_n C 0 dX6_made_77 rfl ?_
  refine x_get C (R' := RX6) (T := TX6) (N := 26) (ci := 6) 0 9 rfl rfl (by decide) rfl rfl hi_X6_made_6 lk_X6_made_34 dX6_made_78 ?_
  refine x_aload_n C 0 dX6_made_81 rfl ?_
  refine x_get C (R' := RX6) (T := TX6) (N := 26) (ci := 6) 0 2 rfl rfl (by decide) rfl rfl hi_X6_made_6 lk_X6_made_88 dX6_made_82 ?_
  refine x_iload C 2 dX6_made_85 rfl ?_
  refine x_iconst C (v := 1) dX6_made_87 (by decide) ?_
  refine x_iadd C dX6_made_88 ?_
  obtain ⟨g89, h⟩ := gdB h
  refine x_iast C 9 rfl g89 dX6_made_89 (wM_s9 cI cZ ad S rest (upd (S 9) (S 0 2).toNatClampNeg (x4 + 1))) ?_
  refine x_locals (lv' := [(0, .ref (ad 0)), (1, .int x1)]) [0, 1] rfl ?_
  exact X_X6_made_b90 C h
def X6_made_b67 (S : St) (x1 x3 x4 : Int32) : Option (Int32 × St) :=
  if inB (S 0 2) 40 then (X6_made_b77 (up S 4 (upd (S 4) (S 0 2).toNatClampNeg x3)) x1 x4) else none
set_option maxHeartbeats 4000000 in
set_option maxRecDepth 100000 in
theorem X_X6_made_b67 {p : Program} {l : Launch} {e : Env} {s : State} {m : MethodId} {args : Array Value} {below : List Frame} {meth : Method} {c : Code} {D : va_G} {cI cZ cJ : ClassId} {ad : Nat → Nat} {rest w0 : va_W} (C : XC p rm_X6_made s m args meth c cX6_made 6 (some .int) RX6 wsX6_made D (t3 cI cZ cJ)) {S : St} {x1 x3 x4 : Int32} {r : Int32 × St} (h : X6_made_b67 S x1 x3 x4 = some r) : XW p l e rm_X6_made s m args below meth c D w0 6 (MQ below (QI D (t3 cI cZ cJ) w0 (wM cI cZ ad r.2 rest) s.heap.size r.1) args s 0 0 (va_A w0 s.heap.size)) (wM cI cZ ad S rest) 0 0 67 [(0, .ref (ad 0)), (1, .int x1), (3, .int x3), (4, .int x4)] [] := by
  unfold X6_made_b67 at h
  refine x_aload_n C 0 dX6_made_67 rfl ?_
  refine x_get C (R' := RX6) (T := TX6) (N := 26) (ci := 6) 0 4 rfl rfl (by decide) rfl rfl hi_X6_made_6 lk_X6_made_19 dX6_made_68 ?_
  refine x_aload_n C 0 dX6_made_71 rfl ?_
  refine x_get C (R' := RX6) (T := TX6) (N := 26) (ci := 6) 0 2 rfl rfl (by decide) rfl rfl hi_X6_made_6 lk_X6_made_88 dX6_made_72 ?_
  refine x_iload_n C 2 dX6_made_75 rfl ?_
  obtain ⟨g76, h⟩ := gdB h
  refine x_iast C 4 rfl g76 dX6_made_76 (wM_s4 cI cZ ad S rest (upd (S 4) (S 0 2).toNatClampNeg x3)) ?_
  refine x_locals (lv' := [(0, .ref (ad 0)), (1, .int x1), (4, .int x4)]) [0, 1, 3] rfl ?_
  exact X_X6_made_b77 C h
def X6_made_b57 (S : St) (x1 x2 x3 x4 : Int32) : Option (Int32 × St) :=
  if inB (S 0 2) 40 then (X6_made_b67 (up S 3 (upd (S 3) (S 0 2).toNatClampNeg x2)) x1 x3 x4) else none
set_option maxHeartbeats 4000000 in
set_option maxRecDepth 100000 in
theorem X_X6_made_b57 {p : Program} {l : Launch} {e : Env} {s : State} {m : MethodId} {args : Array Value} {below : List Frame} {meth : Method} {c : Code} {D : va_G} {cI cZ cJ : ClassId} {ad : Nat → Nat} {rest w0 : va_W} (C : XC p rm_X6_made s m args meth c cX6_made 6 (some .int) RX6 wsX6_made D (t3 cI cZ cJ)) {S : St} {x1 x2 x3 x4 : Int32} {r : Int32 × St} (h : X6_made_b57 S x1 x2 x3 x4 = some r) : XW p l e rm_X6_made s m args below meth c D w0 6 (MQ below (QI D (t3 cI cZ cJ) w0 (wM cI cZ ad r.2 rest) s.heap.size r.1) args s 0 0 (va_A w0 s.heap.size)) (wM cI cZ ad S rest) 0 0 57 [(0, .ref (ad 0)), (1, .int x1), (2, .int x2), (3, .int x3), (4, .int x4)] [] := by
  unfold X6_made_b57 at h
  refine x_aload_n C 0 dX6_made_57 rfl ?_
  refine x_get C (R' := RX6) (T := TX6) (N := 26) (ci := 6) 0 3 rfl rfl (by decide) rfl rfl hi_X6_made_6 lk_X6_made_16 dX6_made_58 ?_
  refine x_aload_n C 0 dX6_made_61 rfl ?_
  refine x_get C (R' := RX6) (T := TX6) (N := 26) (ci := 6) 0 2 rfl rfl (by decide) rfl rfl hi_X6_made_6 lk_X6_made_88 dX6_made_62 ?_
  refine x_iload_n C 2 dX6_made_65 rfl ?_
  obtain ⟨g66, h⟩ := gdB h
  refine x_iast C 3 rfl g66 dX6_made_66 (wM_s3 cI cZ ad S rest (upd (S 3) (S 0 2).toNatClampNeg x2)) ?_
  refine x_locals (lv' := [(0, .ref (ad 0)), (1, .int x1), (3, .int x3), (4, .int x4)]) [0, 1, 3, 4] rfl ?_
  exact X_X6_made_b67 C h
def X6_made_b49 (S : St) (x1 x2 x3 x5 s0 : Int32) : Option ((St × Int32 × Int32 × Int32 × Int32 × Int32) ⊕ (Int32 × St)) :=
  some (.inl (S, x1, x2, x3, s0, x5 + 1))
set_option maxHeartbeats 4000000 in
set_option maxRecDepth 100000 in
theorem X_X6_made_b49 {p : Program} {l : Launch} {e : Env} {s : State} {m : MethodId} {args : Array Value} {below : List Frame} {meth : Method} {c : Code} {D : va_G} {cI cZ cJ : ClassId} {ad : Nat → Nat} {rest w0 : va_W} (C : XC p rm_X6_made s m args meth c cX6_made 6 (some .int) RX6 wsX6_made D (t3 cI cZ cJ)) {S : St} {x1 x2 x3 x5 s0 : Int32} {z : (St × Int32 × Int32 × Int32 × Int32 × Int32) ⊕ (Int32 × St)} {r : Int32 × St} (h : X6_made_b49 S x1 x2 x3 x5 s0 = some z) (hk : ∀ a' : (St × Int32 × Int32 × Int32 × Int32 × Int32), z = .inl a' → XW p l e rm_X6_made s m args below meth c D w0 6 (MQ below (QI D (t3 cI cZ cJ) w0 (wM cI cZ ad r.2 rest) s.heap.size r.1) args s 0 0 (va_A w0 s.heap.size)) (wM cI cZ ad a'.1 rest) 0 0 6 [(0, .ref (ad 0)), (1, .int a'.2.1), (2, .int a'.2.2.1), (3, .int a'.2.2.2.1), (4, .int a'.2.2.2.2.1), (5, .int a'.2.2.2.2.2)] []) (hr : ∀ r', z = .inr r' → r' = r) : XW p l e rm_X6_made s m args below meth c D w0 6 (MQ below (QI D (t3 cI cZ cJ) w0 (wM cI cZ ad r.2 rest) s.heap.size r.1) args s 0 0 (va_A w0 s.heap.size)) (wM cI cZ ad S rest) 0 0 49 [(0, .ref (ad 0)), (1, .int x1), (2, .int x2), (3, .int x3), (5, .int x5)] [.int s0] := by
  unfold X6_made_b49 at h
  refine x_istore C (lv' := [(0, .ref (ad 0)), (1, .int x1), (2, .int x2), (3, .int x3), (4, .int s0), (5, .int x5)]) dX6_made_49 (by decide) rfl ?_
  refine x_iinc C (v := x5 + 1) (lv' := [(0, .ref (ad 0)), (1, .int x1), (2, .int x2), (3, .int x3), (4, .int s0), (5, .int (x5 + 1))]) 5 dX6_made_51 rfl rfl (by decide) rfl ?_
  refine x_goto C (t := 6) dX6_made_54 (by decide) ?_
  exact hk _ (Option.some.inj h).symm
def X6_made_b47 (S : St) (x1 x2 x3 x4 x5 : Int32) : Option ((St × Int32 × Int32 × Int32 × Int32 × Int32) ⊕ (Int32 × St)) :=
  X6_made_b49 S x1 x2 x3 x5 x4
set_option maxHeartbeats 4000000 in
set_option maxRecDepth 100000 in
theorem X_X6_made_b47 {p : Program} {l : Launch} {e : Env} {s : State} {m : MethodId} {args : Array Value} {below : List Frame} {meth : Method} {c : Code} {D : va_G} {cI cZ cJ : ClassId} {ad : Nat → Nat} {rest w0 : va_W} (C : XC p rm_X6_made s m args meth c cX6_made 6 (some .int) RX6 wsX6_made D (t3 cI cZ cJ)) {S : St} {x1 x2 x3 x4 x5 : Int32} {z : (St × Int32 × Int32 × Int32 × Int32 × Int32) ⊕ (Int32 × St)} {r : Int32 × St} (h : X6_made_b47 S x1 x2 x3 x4 x5 = some z) (hk : ∀ a' : (St × Int32 × Int32 × Int32 × Int32 × Int32), z = .inl a' → XW p l e rm_X6_made s m args below meth c D w0 6 (MQ below (QI D (t3 cI cZ cJ) w0 (wM cI cZ ad r.2 rest) s.heap.size r.1) args s 0 0 (va_A w0 s.heap.size)) (wM cI cZ ad a'.1 rest) 0 0 6 [(0, .ref (ad 0)), (1, .int a'.2.1), (2, .int a'.2.2.1), (3, .int a'.2.2.2.1), (4, .int a'.2.2.2.2.1), (5, .int a'.2.2.2.2.2)] []) (hr : ∀ r', z = .inr r' → r' = r) : XW p l e rm_X6_made s m args below meth c D w0 6 (MQ below (QI D (t3 cI cZ cJ) w0 (wM cI cZ ad r.2 rest) s.heap.size r.1) args s 0 0 (va_A w0 s.heap.size)) (wM cI cZ ad S rest) 0 0 47 [(0, .ref (ad 0)), (1, .int x1), (2, .int x2), (3, .int x3), (4, .int x4), (5, .int x5)] [] := by
  unfold X6_made_b47 at h
  refine x_iload C 4 dX6_made_47 rfl ?_
  refine x_locals (lv' := [(0, .ref (ad 0)), (1, .int x1), (2, .int x2), (3, .int x3), (5, .int x5)]) [0, 1, 2, 3, 5] rfl ?_
  exact X_X6_made_b49 C h hk hr
def X6_made_H6 (S : St) (x1 x2 x3 x4 x5 : Int32) : Option ((St × Int32 × Int32 × Int32 × Int32 × Int32) ⊕ (Int32 × St)) :=
  if (S 0 2) ≤ x5 then (exI (X6_made_b57 S x1 x2 x3 x4)) else ((X6_knows S x5 x1).bind fun v19 => if v19 = 0 then (X6_made_b47 S x1 x2 x3 x4 x5) else (if inB x5 40 then (if (S 9 x5.toNatClampNeg) ≤ x4 then (X6_made_b47 S x1 x2 x3 x4 x5) else (if inB x5 40 then (X6_made_b49 S x1 x2 x3 x5 (S 9 x5.toNatClampNeg)) else none)) else none))
set_option maxHeartbeats 4000000 in
set_option maxRecDepth 100000 in
theorem X_X6_made_H6 {p : Program} {l : Launch} {e : Env} {s : State} {m : MethodId} {args : Array Value} {below : List Frame} {meth : Method} {c : Code} {D : va_G} {cI cZ cJ : ClassId} {ad : Nat → Nat} {rest w0 : va_W} (C : XC p rm_X6_made s m args meth c cX6_made 6 (some .int) RX6 wsX6_made D (t3 cI cZ cJ)) {S : St} {x1 x2 x3 x4 x5 : Int32} {z : (St × Int32 × Int32 × Int32 × Int32 × Int32) ⊕ (Int32 × St)} {r : Int32 × St} (h : X6_made_H6 S x1 x2 x3 x4 x5 = some z) (hk : ∀ a' : (St × Int32 × Int32 × Int32 × Int32 × Int32), z = .inl a' → XW p l e rm_X6_made s m args below meth c D w0 6 (MQ below (QI D (t3 cI cZ cJ) w0 (wM cI cZ ad r.2 rest) s.heap.size r.1) args s 0 0 (va_A w0 s.heap.size)) (wM cI cZ ad a'.1 rest) 0 0 6 [(0, .ref (ad 0)), (1, .int a'.2.1), (2, .int a'.2.2.1), (3, .int a'.2.2.2.1), (4, .int a'.2.2.2.2.1), (5, .int a'.2.2.2.2.2)] []) (hr : ∀ r', z = .inr r' → r' = r) : XW p l e rm_X6_made s m args below meth c D w0 6 (MQ below (QI D (t3 cI cZ cJ) w0 (wM cI cZ ad r.2 rest) s.heap.size r.1) args s 0 0 (va_A w0 s.heap.size)) (wM cI cZ ad S rest) 0 0 6 [(0, .ref (ad 0)), (1, .int x1), (2, .int x2), (3, .int x3), (4, .int x4), (5, .int x5)] [] := by
  unfold X6_made_H6 at h
  refine x_iload C 5 dX6_made_6 rfl ?_
  refine x_aload_n C 0 dX6_made_8 rfl ?_
  refine x_get C (R' := RX6) (T := TX6) (N := 26) (ci := 6) 0 2 rfl rfl (by decide) rfl rfl hi_X6_made_6 lk_X6_made_88 dX6_made_9 ?_
  refine x_icmp_ge C (t := 57) dX6_made_12 (by decide) (fun c12 => ?_) (fun c12 => ?_)
  · replace h := (if_pos c12).symm.trans h
    refine x_locals (lv' := [(0, .ref (ad 0)), (1, .int x1), (2, .int x2), (3, .int x3), (4, .int x4)]) [0, 1, 2, 3, 4] rfl ?_
    obtain ⟨r1, h1, h2⟩ := exI_some h
    obtain rfl := hr r1 h2
    exact X_X6_made_b57 C h1
  · replace h := (if_neg c12).symm.trans h
    refine x_aload_n C 0 dX6_made_15 rfl ?_
    refine x_iload C 5 dX6_made_16 rfl ?_
    refine x_iload_n C 1 dX6_made_18 rfl ?_
    obtain ⟨v19, hg19, h⟩ := ob h
    refine x_ci0 (x_runV C (As := [.int x5, .int x1]) (rest := []) (c_X6_knows hg19) (cw_X6_made_X6_knows_109 C) 0 rfl rfl rfl (Nat.le_of_ble_eq_true rfl) dX6_made_19 ⟨Nat.zero_le _, Nat.zero_le _⟩) ?_
    refine x_if_eq C (t := 47) dX6_made_22 (by decide) (fun c22 => ?_) (fun c22 => ?_)
    · replace h := (if_pos c22).symm.trans h
      exact X_X6_made_b47 C h hk hr
    · replace h := (if_neg c22).symm.trans h
      refine x_aload_n C 0 dX6_made_25 rfl ?_
      refine x_get C (R' := RX6) (T := TX6) (N := 26) (ci := 6) 0 9 rfl rfl (by decide) rfl rfl hi_X6_made_6 lk_X6_made_34 dX6_made_26 ?_
      refine x_iload C 5 dX6_made_29 rfl ?_
      obtain ⟨g31, h⟩ := gdB h
      refine x_iald C 9 rfl g31 dX6_made_31 ?_
      refine x_iload C 4 dX6_made_32 rfl ?_
      refine x_icmp_le C (t := 47) dX6_made_34 (by decide) (fun c34 => ?_) (fun c34 => ?_)
      · replace h := (if_pos c34).symm.trans h
        exact X_X6_made_b47 C h hk hr
      · replace h := (if_neg c34).symm.trans h
        refine x_aload_n C 0 dX6_made_37 rfl ?_
        refine x_get C (R' := RX6) (T := TX6) (N := 26) (ci := 6) 0 9 rfl rfl (by decide) rfl rfl hi_X6_made_6 lk_X6_made_34 dX6_made_38 ?_
        refine x_iload C 5 dX6_made_41 rfl ?_
        obtain ⟨g43, h⟩ := gdB h
        refine x_iald C 9 rfl g43 dX6_made_43 ?_
        refine x_goto C (t := 49) dX6_made_44 (by decide) ?_
        refine x_locals (lv' := [(0, .ref (ad 0)), (1, .int x1), (2, .int x2), (3, .int x3), (5, .int x5)]) [0, 1, 2, 3, 5] rfl ?_
        exact X_X6_made_b49 C h hk hr
def X6_made_L6 (S : St) (x1 x2 x3 x4 x5 : Int32) : Option (Int32 × St) := wloop (fun a' : (St × Int32 × Int32 × Int32 × Int32 × Int32) => X6_made_H6 a'.1 a'.2.1 a'.2.2.1 a'.2.2.2.1 a'.2.2.2.2.1 a'.2.2.2.2.2) 1000 (S, x1, x2, x3, x4, x5)
set_option maxHeartbeats 4000000 in
set_option maxRecDepth 100000 in
theorem X_X6_made_L6 {p : Program} {l : Launch} {e : Env} {s : State} {m : MethodId} {args : Array Value} {below : List Frame} {meth : Method} {c : Code} {D : va_G} {cI cZ cJ : ClassId} {ad : Nat → Nat} {rest w0 : va_W} (C : XC p rm_X6_made s m args meth c cX6_made 6 (some .int) RX6 wsX6_made D (t3 cI cZ cJ)) {S : St} {x1 x2 x3 x4 x5 : Int32} {r : Int32 × St} (h : X6_made_L6 S x1 x2 x3 x4 x5 = some r) : XW p l e rm_X6_made s m args below meth c D w0 6 (MQ below (QI D (t3 cI cZ cJ) w0 (wM cI cZ ad r.2 rest) s.heap.size r.1) args s 0 0 (va_A w0 s.heap.size)) (wM cI cZ ad S rest) 0 0 6 [(0, .ref (ad 0)), (1, .int x1), (2, .int x2), (3, .int x3), (4, .int x4), (5, .int x5)] [] :=
  wloop_met (P := (fun a' : (St × Int32 × Int32 × Int32 × Int32 × Int32) => XW p l e rm_X6_made s m args below meth c D w0 6 (MQ below (QI D (t3 cI cZ cJ) w0 (wM cI cZ ad r.2 rest) s.heap.size r.1) args s 0 0 (va_A w0 s.heap.size)) (wM cI cZ ad a'.1 rest) 0 0 6 [(0, .ref (ad 0)), (1, .int a'.2.1), (2, .int a'.2.2.1), (3, .int a'.2.2.2.1), (4, .int a'.2.2.2.2.1), (5, .int a'.2.2.2.2.2)] [])) (fun _ _ hz hk hr => X_X6_made_H6 C hz hk hr) 1000 (S, x1, x2, x3, x4, x5) h
def X6_made (S : St) (x1 x2 x3 : Int32) : Option (Int32 × St) :=
  X6_made_L6 S x1 x2 x3 0 0
set_option maxHeartbeats 4000000 in
set_option maxRecDepth 100000 in
theorem X_X6_made {p : Program} {l : Launch} {e : Env} {s : State} {m : MethodId} {args : Array Value} {below : List Frame} {meth : Method} {c : Code} {D : va_G} {cI cZ cJ : ClassId} {ad : Nat → Nat} {rest w0 : va_W} (C : XC p rm_X6_made s m args meth c cX6_made 6 (some .int) RX6 wsX6_made D (t3 cI cZ cJ)) {S : St} {x1 x2 x3 : Int32} {r : Int32 × St} (h : X6_made S x1 x2 x3 = some r) : XW p l e rm_X6_made s m args below meth c D w0 6 (MQ below (QI D (t3 cI cZ cJ) w0 (wM cI cZ ad r.2 rest) s.heap.size r.1) args s 0 0 (va_A w0 s.heap.size)) (wM cI cZ ad S rest) 0 0 0 [(0, .ref (ad 0)), (1, .int x1), (2, .int x2), (3, .int x3)] [] := by
  unfold X6_made at h
  refine x_iconst C (v := 0) dX6_made_0 (by decide) ?_
  refine x_istore C (lv' := [(0, .ref (ad 0)), (1, .int x1), (2, .int x2), (3, .int x3), (4, .int 0)]) dX6_made_1 (by decide) rfl ?_
  refine x_iconst C (v := 0) dX6_made_3 (by decide) ?_
  refine x_istore C (lv' := [(0, .ref (ad 0)), (1, .int x1), (2, .int x2), (3, .int x3), (4, .int 0), (5, .int 0)]) dX6_made_4 (by decide) rfl ?_
  exact X_X6_made_L6 C h
set_option maxRecDepth 100000 in
theorem c_X6_made {l : Launch} {D : va_G} {cI cZ cJ : ClassId} {ad : Nat → Nat} {S : St} {rest : va_W} {x1 x2 x3 : Int32} {r : Int32 × St} (h : X6_made S x1 x2 x3 = some r) : ∀ sz, Met l yX6_made wsX6_made rm_X6_made (PC D (t3 cI cZ cJ) [.ref (ad 0), .int x1, .int x2, .int x3] (wM cI cZ ad S rest) sz) (QI D (t3 cI cZ cJ) (wM cI cZ ad S rest) (wM cI cZ ad r.2 rest) sz r.1) 0 0 (va_A (wM cI cZ ad S rest) sz) := by
  refine x_met (Qc := fun sz => QI D (t3 cI cZ cJ) (wM cI cZ ad S rest) (wM cI cZ ad r.2 rest) sz r.1) RX6 rfl (by decide) rfl (Nat.le_of_ble_eq_true rfl) (fun p e s m args below meth c C => ?_)
  exact X_X6_made C h
/-! EntryMastersModel.add(IIII)I -/
abbrev rm_X6_add : Room := { frames := 6, cells := 0, slots := 0, locals := 136 }
theorem hi_X6_add_6 : ∀ z ∈ u_ws RX6 TX6 26, z ∈ wsX6_add := by decide +kernel
theorem lk_X6_add_22 : Cond.fieldLink RX6 22 RX6 "under" "[I" ∈ wsX6_add := by decide +kernel
theorem lk_X6_add_25 : Cond.fieldLink RX6 25 RX6 "named" "[I" ∈ wsX6_add := by decide +kernel
theorem lk_X6_add_28 : Cond.fieldLink RX6 28 RX6 "which" "[I" ∈ wsX6_add := by decide +kernel
theorem lk_X6_add_80 : Cond.fieldLink RX6 80 RX6 "thrown" "I" ∈ wsX6_add := by decide +kernel
theorem lk_X6_add_88 : Cond.fieldLink RX6 88 RX6 "changes" "I" ∈ wsX6_add := by decide +kernel
theorem cw_X6_add_X6_finds_95 {p : Program} {s : State} {m : MethodId} {args : Array Value} {meth : Method} {c : Code} {D : va_G} {tys : List (ClassId × FieldType)} {R : Room} (C : XC p R s m args meth c cX6_add 6 (some .int) RX6 wsX6_add D tys) : CallW rm_X6_add s args RX6 RX6 95 yX6_finds cX6_finds 6 (some .int) wsX6_finds rm_X6_finds 0 0 3 := cwV 3 C.2.2.2.2.1 gX6_add_X6_finds rfl rfl rfl (by decide +kernel) ⟨Nat.le_of_ble_eq_true rfl, Nat.le_of_ble_eq_true rfl⟩
theorem cw_X6_add_X6_isHere_127 {p : Program} {s : State} {m : MethodId} {args : Array Value} {meth : Method} {c : Code} {D : va_G} {tys : List (ClassId × FieldType)} {R : Room} (C : XC p R s m args meth c cX6_add 6 (some .int) RX6 wsX6_add D tys) : CallW rm_X6_add s args RX6 RX6 127 yX6_isHere cX6_isHere 3 (some .boolean) wsX6_isHere rm_X6_isHere 0 0 2 := cwV 2 C.2.2.2.2.1 gX6_add_X6_isHere rfl rfl rfl (by decide +kernel) ⟨Nat.le_of_ble_eq_true rfl, Nat.le_of_ble_eq_true rfl⟩
theorem cw_X6_add_X6_isIn_84 {p : Program} {s : State} {m : MethodId} {args : Array Value} {meth : Method} {c : Code} {D : va_G} {tys : List (ClassId × FieldType)} {R : Room} (C : XC p R s m args meth c cX6_add 6 (some .int) RX6 wsX6_add D tys) : CallB rm_X6_add s args RX6 84 yX6_isIn cX6_isIn 3 (some .boolean) wsX6_isIn rm_X6_isIn 0 0 3 ∧ (Cond.static yX6_isIn).before args s = true := va_cwS 3 C.2.2.2.2.1 gX6_add_X6_isIn rfl rfl rfl (by decide +kernel) ⟨Nat.le_of_ble_eq_true rfl, Nat.le_of_ble_eq_true rfl⟩
theorem cw_X6_add_X6_made_130 {p : Program} {s : State} {m : MethodId} {args : Array Value} {meth : Method} {c : Code} {D : va_G} {tys : List (ClassId × FieldType)} {R : Room} (C : XC p R s m args meth c cX6_add 6 (some .int) RX6 wsX6_add D tys) : CallW rm_X6_add s args RX6 RX6 130 yX6_made cX6_made 6 (some .int) wsX6_made rm_X6_made 0 0 3 := cwV 3 C.2.2.2.2.1 gX6_add_X6_made rfl rfl rfl (by decide +kernel) ⟨Nat.le_of_ble_eq_true rfl, Nat.le_of_ble_eq_true rfl⟩
def X6_add_b113 (S : St) (x5 : Int32) : Option (Int32 × St) :=
  some (x5 + 2, S)
set_option maxHeartbeats 4000000 in
set_option maxRecDepth 100000 in
theorem X_X6_add_b113 {p : Program} {l : Launch} {e : Env} {s : State} {m : MethodId} {args : Array Value} {below : List Frame} {meth : Method} {c : Code} {D : va_G} {cI cZ cJ : ClassId} {ad : Nat → Nat} {rest w0 : va_W} (C : XC p rm_X6_add s m args meth c cX6_add 6 (some .int) RX6 wsX6_add D (t3 cI cZ cJ)) {S : St} {x5 : Int32} {r : Int32 × St} (h : X6_add_b113 S x5 = some r) : XW p l e rm_X6_add s m args below meth c D w0 6 (MQ below (QI D (t3 cI cZ cJ) w0 (wM cI cZ ad r.2 rest) s.heap.size r.1) args s 0 0 (va_A w0 s.heap.size)) (wM cI cZ ad S rest) 0 0 113 [(5, .int x5)] [] := by
  unfold X6_add_b113 at h
  refine x_iload C 0 dX6_add_113 rfl ?_
  refine x_iconst C (v := 2) dX6_add_115 (by decide) ?_
  refine x_iadd C dX6_add_116 ?_
  obtain rfl := Option.some.inj h
  exact x_iret C dX6_add_117
def X6_add_b104 (S : St) (x4 x5 : Int32) : Option (Int32 × St) :=
  if inB x5 40 then (X6_add_b113 (up S 7 (upd (S 7) x5.toNatClampNeg x4)) x5) else none
set_option maxHeartbeats 4000000 in
set_option maxRecDepth 100000 in
theorem X_X6_add_b104 {p : Program} {l : Launch} {e : Env} {s : State} {m : MethodId} {args : Array Value} {below : List Frame} {meth : Method} {c : Code} {D : va_G} {cI cZ cJ : ClassId} {ad : Nat → Nat} {rest w0 : va_W} (C : XC p rm_X6_add s m args meth c cX6_add 6 (some .int) RX6 wsX6_add D (t3 cI cZ cJ)) {S : St} {x4 x5 : Int32} {r : Int32 × St} (h : X6_add_b104 S x4 x5 = some r) : XW p l e rm_X6_add s m args below meth c D w0 6 (MQ below (QI D (t3 cI cZ cJ) w0 (wM cI cZ ad r.2 rest) s.heap.size r.1) args s 0 0 (va_A w0 s.heap.size)) (wM cI cZ ad S rest) 0 0 104 [(0, .ref (ad 0)), (4, .int x4), (5, .int x5)] [] := by
  unfold X6_add_b104 at h
  refine x_aload_n C 0 dX6_add_104 rfl ?_
  refine x_get C (R' := RX6) (T := TX6) (N := 26) (ci := 6) 0 7 rfl rfl (by decide) rfl rfl hi_X6_add_6 lk_X6_add_28 dX6_add_105 ?_
  refine x_iload C 2 dX6_add_108 rfl ?_
  refine x_iload C 1 dX6_add_110 rfl ?_
  obtain ⟨g112, h⟩ := gdB h
  refine x_iast C 7 rfl g112 dX6_add_112 (wM_s7 cI cZ ad S rest (upd (S 7) x5.toNatClampNeg x4)) ?_
  refine x_locals (lv' := [(5, .int x5)]) [2] rfl ?_
  exact X_X6_add_b113 C h
def X6_add_b96 (S : St) (x3 x4 x5 : Int32) : Option (Int32 × St) :=
  if inB x5 40 then (X6_add_b104 (up S 6 (upd (S 6) x5.toNatClampNeg x3)) x4 x5) else none
set_option maxHeartbeats 4000000 in
set_option maxRecDepth 100000 in
theorem X_X6_add_b96 {p : Program} {l : Launch} {e : Env} {s : State} {m : MethodId} {args : Array Value} {below : List Frame} {meth : Method} {c : Code} {D : va_G} {cI cZ cJ : ClassId} {ad : Nat → Nat} {rest w0 : va_W} (C : XC p rm_X6_add s m args meth c cX6_add 6 (some .int) RX6 wsX6_add D (t3 cI cZ cJ)) {S : St} {x3 x4 x5 : Int32} {r : Int32 × St} (h : X6_add_b96 S x3 x4 x5 = some r) : XW p l e rm_X6_add s m args below meth c D w0 6 (MQ below (QI D (t3 cI cZ cJ) w0 (wM cI cZ ad r.2 rest) s.heap.size r.1) args s 0 0 (va_A w0 s.heap.size)) (wM cI cZ ad S rest) 0 0 96 [(0, .ref (ad 0)), (3, .int x3), (4, .int x4), (5, .int x5)] [] := by
  unfold X6_add_b96 at h
  refine x_aload_n C 0 dX6_add_96 rfl ?_
  refine x_get C (R' := RX6) (T := TX6) (N := 26) (ci := 6) 0 6 rfl rfl (by decide) rfl rfl hi_X6_add_6 lk_X6_add_25 dX6_add_97 ?_
  refine x_iload C 3 dX6_add_100 rfl ?_
  refine x_iload_n C 1 dX6_add_102 rfl ?_
  obtain ⟨g103, h⟩ := gdB h
  refine x_iast C 6 rfl g103 dX6_add_103 (wM_s6 cI cZ ad S rest (upd (S 6) x5.toNatClampNeg x3)) ?_
  refine x_locals (lv' := [(0, .ref (ad 0)), (4, .int x4), (5, .int x5)]) [0, 2, 3] rfl ?_
  exact X_X6_add_b104 C h
def X6_add_b86 (S : St) (x2 x3 x4 s0 : Int32) : Option (Int32 × St) :=
  if inB s0 40 then (X6_add_b96 (up S 5 (upd (S 5) s0.toNatClampNeg x2)) x3 x4 s0) else none
set_option maxHeartbeats 4000000 in
set_option maxRecDepth 100000 in
theorem X_X6_add_b86 {p : Program} {l : Launch} {e : Env} {s : State} {m : MethodId} {args : Array Value} {below : List Frame} {meth : Method} {c : Code} {D : va_G} {cI cZ cJ : ClassId} {ad : Nat → Nat} {rest w0 : va_W} (C : XC p rm_X6_add s m args meth c cX6_add 6 (some .int) RX6 wsX6_add D (t3 cI cZ cJ)) {S : St} {x2 x3 x4 s0 : Int32} {r : Int32 × St} (h : X6_add_b86 S x2 x3 x4 s0 = some r) : XW p l e rm_X6_add s m args below meth c D w0 6 (MQ below (QI D (t3 cI cZ cJ) w0 (wM cI cZ ad r.2 rest) s.heap.size r.1) args s 0 0 (va_A w0 s.heap.size)) (wM cI cZ ad S rest) 0 0 86 [(0, .ref (ad 0)), (2, .int x2), (3, .int x3), (4, .int x4)] [.int s0] := by
  unfold X6_add_b86 at h
  refine x_istore C (lv' := [(0, .ref (ad 0)), (2, .int x2), (3, .int x3), (4, .int x4), (5, .int s0)]) dX6_add_86 (by decide) rfl ?_
  refine x_aload_n C 0 dX6_add_88 rfl ?_
  refine x_get C (R' := RX6) (T := TX6) (N := 26) (ci := 6) 0 5 rfl rfl (by decide) rfl rfl hi_X6_add_6 lk_X6_add_22 dX6_add_89 ?_
  refine x_iload C 4 dX6_add_92 rfl ?_
  refine x_iload_n C 1 dX6_add_94 rfl ?_
  obtain ⟨g95, h⟩ := gdB h
  refine x_iast C 5 rfl g95 dX6_add_95 (wM_s5 cI cZ ad S rest (upd (S 5) s0.toNatClampNeg x2)) ?_
  refine x_locals (lv' := [(0, .ref (ad 0)), (3, .int x3), (4, .int x4), (5, .int s0)]) [0, 2, 3, 4] rfl ?_
  exact X_X6_add_b96 C h
def X6_add_b65 (S : St) (x1 x2 x3 x4 : Int32) : Option (Int32 × St) :=
  if (S 0 25) ≤ 0 then ((X6_made S x1 0 ((S 0 2) + 2)).bind fun q83 => X6_add_b86 q83.2 x2 x3 x4 q83.1) else (some (0, S))
set_option maxHeartbeats 4000000 in
set_option maxRecDepth 100000 in
theorem X_X6_add_b65 {p : Program} {l : Launch} {e : Env} {s : State} {m : MethodId} {args : Array Value} {below : List Frame} {meth : Method} {c : Code} {D : va_G} {cI cZ cJ : ClassId} {ad : Nat → Nat} {rest w0 : va_W} (C : XC p rm_X6_add s m args meth c cX6_add 6 (some .int) RX6 wsX6_add D (t3 cI cZ cJ)) {S : St} {x1 x2 x3 x4 : Int32} {r : Int32 × St} (h : X6_add_b65 S x1 x2 x3 x4 = some r) : XW p l e rm_X6_add s m args below meth c D w0 6 (MQ below (QI D (t3 cI cZ cJ) w0 (wM cI cZ ad r.2 rest) s.heap.size r.1) args s 0 0 (va_A w0 s.heap.size)) (wM cI cZ ad S rest) 0 0 65 [(0, .ref (ad 0)), (1, .int x1), (2, .int x2), (3, .int x3), (4, .int x4)] [] := by
  unfold X6_add_b65 at h
  refine x_aload_n C 0 dX6_add_65 rfl ?_
  refine x_get C (R' := RX6) (T := TX6) (N := 26) (ci := 6) 0 25 rfl rfl (by decide) rfl rfl hi_X6_add_6 lk_X6_add_80 dX6_add_66 ?_
  refine x_if_le C (t := 74) dX6_add_69 (by decide) (fun c69 => ?_) (fun c69 => ?_)
  · replace h := (if_pos c69).symm.trans h
    refine x_aload_n C 0 dX6_add_74 rfl ?_
    refine x_iload_n C 1 dX6_add_75 rfl ?_
    refine x_iconst C (v := 0) dX6_add_76 (by decide) ?_
    refine x_aload_n C 0 dX6_add_77 rfl ?_
    refine x_get C (R' := RX6) (T := TX6) (N := 26) (ci := 6) 0 2 rfl rfl (by decide) rfl rfl hi_X6_add_6 lk_X6_add_88 dX6_add_78 ?_
    refine x_iconst C (v := 2) dX6_add_81 (by decide) ?_
    refine x_iadd C dX6_add_82 ?_
    obtain ⟨⟨v83, S83⟩, hg83, h⟩ := ob h
    refine x_ci0 (x_runV C (As := [.int x1, .int 0, .int ((S 0 2) + 2)]) (rest := []) (c_X6_made hg83) (cw_X6_add_X6_made_130 C) 0 rfl rfl rfl (Nat.le_of_ble_eq_true rfl) dX6_add_83 ⟨Nat.zero_le _, Nat.zero_le _⟩) ?_
    refine x_locals (lv' := [(0, .ref (ad 0)), (2, .int x2), (3, .int x3), (4, .int x4)]) [0, 2, 3, 4] rfl ?_
    exact X_X6_add_b86 C h
  · replace h := (if_neg c69).symm.trans h
    refine x_iconst C (v := 0) dX6_add_72 (by decide) ?_
    obtain rfl := Option.some.inj h
    exact x_iret C dX6_add_73
def X6_add_b62 (S : St) (x1 x2 x3 x4 s0 : Int32) : Option (Int32 × St) :=
  X6_add_b65 (up S 0 (upd (S 0) 25 s0)) x1 x2 x3 x4
set_option maxHeartbeats 4000000 in
set_option maxRecDepth 100000 in
theorem X_X6_add_b62 {p : Program} {l : Launch} {e : Env} {s : State} {m : MethodId} {args : Array Value} {below : List Frame} {meth : Method} {c : Code} {D : va_G} {cI cZ cJ : ClassId} {ad : Nat → Nat} {rest w0 : va_W} (C : XC p rm_X6_add s m args meth c cX6_add 6 (some .int) RX6 wsX6_add D (t3 cI cZ cJ)) {S : St} {x1 x2 x3 x4 s0 : Int32} {r : Int32 × St} (h : X6_add_b62 S x1 x2 x3 x4 s0 = some r) : XW p l e rm_X6_add s m args below meth c D w0 6 (MQ below (QI D (t3 cI cZ cJ) w0 (wM cI cZ ad r.2 rest) s.heap.size r.1) args s 0 0 (va_A w0 s.heap.size)) (wM cI cZ ad S rest) 0 0 62 [(0, .ref (ad 0)), (1, .int x1), (2, .int x2), (3, .int x3), (4, .int x4)] [.int s0, .ref (ad 0)] := by
  unfold X6_add_b62 at h
  refine x_put C (R' := RX6) (T := TX6) (N := 26) (ci := 6) tyX6 tyX6_ok nmX6 0 25 rfl rfl (by decide) rfl rfl (lt_ble rfl) rfl hi_X6_add_6 lk_X6_add_80 dX6_add_62 (wM_f0_25 cI cZ ad S rest s0) ?_
  exact X_X6_add_b65 C h
def X6_add_b20 (S : St) (x1 x2 x3 x4 : Int32) : Option (Int32 × St) :=
  X6_add_b62 S x1 x2 x3 x4 1
set_option maxHeartbeats 4000000 in
set_option maxRecDepth 100000 in
theorem X_X6_add_b20 {p : Program} {l : Launch} {e : Env} {s : State} {m : MethodId} {args : Array Value} {below : List Frame} {meth : Method} {c : Code} {D : va_G} {cI cZ cJ : ClassId} {ad : Nat → Nat} {rest w0 : va_W} (C : XC p rm_X6_add s m args meth c cX6_add 6 (some .int) RX6 wsX6_add D (t3 cI cZ cJ)) {S : St} {x1 x2 x3 x4 : Int32} {r : Int32 × St} (h : X6_add_b20 S x1 x2 x3 x4 = some r) : XW p l e rm_X6_add s m args below meth c D w0 6 (MQ below (QI D (t3 cI cZ cJ) w0 (wM cI cZ ad r.2 rest) s.heap.size r.1) args s 0 0 (va_A w0 s.heap.size)) (wM cI cZ ad S rest) 0 0 20 [(0, .ref (ad 0)), (1, .int x1), (2, .int x2), (3, .int x3), (4, .int x4)] [.ref (ad 0)] := by
  unfold X6_add_b20 at h
  refine x_iconst C (v := 1) dX6_add_20 (by decide) ?_
  refine x_goto C (t := 62) dX6_add_21 (by decide) ?_
  exact X_X6_add_b62 C h
def X6_add_b57 (S : St) (x1 x2 x3 x4 : Int32) : Option (Int32 × St) :=
  X6_add_b62 S x1 x2 x3 x4 3
set_option maxHeartbeats 4000000 in
set_option maxRecDepth 100000 in
theorem X_X6_add_b57 {p : Program} {l : Launch} {e : Env} {s : State} {m : MethodId} {args : Array Value} {below : List Frame} {meth : Method} {c : Code} {D : va_G} {cI cZ cJ : ClassId} {ad : Nat → Nat} {rest w0 : va_W} (C : XC p rm_X6_add s m args meth c cX6_add 6 (some .int) RX6 wsX6_add D (t3 cI cZ cJ)) {S : St} {x1 x2 x3 x4 : Int32} {r : Int32 × St} (h : X6_add_b57 S x1 x2 x3 x4 = some r) : XW p l e rm_X6_add s m args below meth c D w0 6 (MQ below (QI D (t3 cI cZ cJ) w0 (wM cI cZ ad r.2 rest) s.heap.size r.1) args s 0 0 (va_A w0 s.heap.size)) (wM cI cZ ad S rest) 0 0 57 [(0, .ref (ad 0)), (1, .int x1), (2, .int x2), (3, .int x3), (4, .int x4)] [.ref (ad 0)] := by
  unfold X6_add_b57 at h
  refine x_iconst C (v := 3) dX6_add_57 (by decide) ?_
  refine x_goto C (t := 62) dX6_add_58 (by decide) ?_
  exact X_X6_add_b62 C h
def X6_add_b7 (S : St) (x1 x2 x3 x4 s0 : Int32) : Option (Int32 × St) :=
  if s0 = 0 then (X6_add_b20 S x1 x2 x3 x4) else ((X6_isIn x4 0 2).bind fun v14 => if v14 = 0 then (X6_add_b20 S x1 x2 x3 x4) else ((X6_isIn x3 0 99).bind fun v28 => if v28 = 0 then (X6_add_b62 S x1 x2 x3 x4 2) else (if (S 0 2) = 40 then (X6_add_b57 S x1 x2 x3 x4) else ((X6_finds S x2 x3 (-1)).bind fun v51 => if v51 < 0 then (X6_add_b62 S x1 x2 x3 x4 0) else (X6_add_b57 S x1 x2 x3 x4)))))
set_option maxHeartbeats 4000000 in
set_option maxRecDepth 100000 in
theorem X_X6_add_b7 {p : Program} {l : Launch} {e : Env} {s : State} {m : MethodId} {args : Array Value} {below : List Frame} {meth : Method} {c : Code} {D : va_G} {cI cZ cJ : ClassId} {ad : Nat → Nat} {rest w0 : va_W} (C : XC p rm_X6_add s m args meth c cX6_add 6 (some .int) RX6 wsX6_add D (t3 cI cZ cJ)) {S : St} {x1 x2 x3 x4 s0 : Int32} {r : Int32 × St} (h : X6_add_b7 S x1 x2 x3 x4 s0 = some r) : XW p l e rm_X6_add s m args below meth c D w0 6 (MQ below (QI D (t3 cI cZ cJ) w0 (wM cI cZ ad r.2 rest) s.heap.size r.1) args s 0 0 (va_A w0 s.heap.size)) (wM cI cZ ad S rest) 0 0 7 [(0, .ref (ad 0)), (1, .int x1), (2, .int x2), (3, .int x3), (4, .int x4)] [.int s0, .ref (ad 0)] := by
  unfold X6_add_b7 at h
  refine x_if_eq C (t := 20) dX6_add_7 (by decide) (fun c7 => ?_) (fun c7 => ?_)
  · replace h := (if_pos c7).symm.trans h
    exact X_X6_add_b20 C h
  · replace h := (if_neg c7).symm.trans h
    refine x_iload C 4 dX6_add_10 rfl ?_
    refine x_iconst C (v := 0) dX6_add_12 (by decide) ?_
    refine x_iconst C (v := 2) dX6_add_13 (by decide) ?_
    obtain ⟨v14, hg14, h⟩ := ob h
    refine x_ci0 (x_runS C (As := [.int x4, .int 0, .int 2]) (rest := [.ref (ad 0)]) (c_X6_isIn hg14) (cw_X6_add_X6_isIn_84 C) rfl (Nat.le_of_ble_eq_true rfl) dX6_add_14 ⟨Nat.zero_le _, Nat.zero_le _⟩) ?_
    refine x_if_ne C (t := 24) dX6_add_17 (by decide) (fun c17 => ?_) (fun c17 => ?_)
    · replace h := (if_neg c17).symm.trans h
      refine x_iload_n C 3 dX6_add_24 rfl ?_
      refine x_iconst C (v := 0) dX6_add_25 (by decide) ?_
      refine x_bipush C (v := 99) dX6_add_26 (by decide) ?_
      obtain ⟨v28, hg28, h⟩ := ob h
      refine x_ci0 (x_runS C (As := [.int x3, .int 0, .int 99]) (rest := [.ref (ad 0)]) (c_X6_isIn hg28) (cw_X6_add_X6_isIn_84 C) rfl (Nat.le_of_ble_eq_true rfl) dX6_add_28 ⟨Nat.zero_le _, Nat.zero_le _⟩) ?_
      refine x_if_ne C (t := 38) dX6_add_31 (by decide) (fun c31 => ?_) (fun c31 => ?_)
      · replace h := (if_neg c31).symm.trans h
        refine x_aload_n C 0 dX6_add_38 rfl ?_
        refine x_get C (R' := RX6) (T := TX6) (N := 26) (ci := 6) 0 2 rfl rfl (by decide) rfl rfl hi_X6_add_6 lk_X6_add_88 dX6_add_39 ?_
        refine x_bipush C (v := 40) dX6_add_42 (by decide) ?_
        refine x_icmp_eq C (t := 57) dX6_add_44 (by decide) (fun c44 => ?_) (fun c44 => ?_)
        · replace h := (if_pos c44).symm.trans h
          exact X_X6_add_b57 C h
        · replace h := (if_neg c44).symm.trans h
          refine x_aload_n C 0 dX6_add_47 rfl ?_
          refine x_iload_n C 2 dX6_add_48 rfl ?_
          refine x_iload_n C 3 dX6_add_49 rfl ?_
          refine x_iconst C (v := (-1)) dX6_add_50 (by decide) ?_
          obtain ⟨v51, hg51, h⟩ := ob h
          refine x_ci0 (x_runV C (As := [.int x2, .int x3, .int (-1)]) (rest := [.ref (ad 0)]) (c_X6_finds hg51) (cw_X6_add_X6_finds_95 C) 0 rfl rfl rfl (Nat.le_of_ble_eq_true rfl) dX6_add_51 ⟨Nat.zero_le _, Nat.zero_le _⟩) ?_
          refine x_if_lt C (t := 61) dX6_add_54 (by decide) (fun c54 => ?_) (fun c54 => ?_)
          · replace h := (if_pos c54).symm.trans h
            refine x_iconst C (v := 0) dX6_add_61 (by decide) ?_
            exact X_X6_add_b62 C h
          · replace h := (if_neg c54).symm.trans h
            exact X_X6_add_b57 C h
      · replace h := (if_pos c31).symm.trans h
        refine x_iconst C (v := 2) dX6_add_34 (by decide) ?_
        refine x_goto C (t := 62) dX6_add_35 (by decide) ?_
        exact X_X6_add_b62 C h
    · replace h := (if_pos c17).symm.trans h
      exact X_X6_add_b20 C h
def X6_add (S : St) (x1 x2 x3 x4 : Int32) : Option (Int32 × St) :=
  (X6_isHere S x1 x2).bind fun q4 => X6_add_b7 q4.2 x1 x2 x3 x4 q4.1
set_option maxHeartbeats 4000000 in
set_option maxRecDepth 100000 in
theorem X_X6_add {p : Program} {l : Launch} {e : Env} {s : State} {m : MethodId} {args : Array Value} {below : List Frame} {meth : Method} {c : Code} {D : va_G} {cI cZ cJ : ClassId} {ad : Nat → Nat} {rest w0 : va_W} (C : XC p rm_X6_add s m args meth c cX6_add 6 (some .int) RX6 wsX6_add D (t3 cI cZ cJ)) {S : St} {x1 x2 x3 x4 : Int32} {r : Int32 × St} (h : X6_add S x1 x2 x3 x4 = some r) : XW p l e rm_X6_add s m args below meth c D w0 6 (MQ below (QI D (t3 cI cZ cJ) w0 (wM cI cZ ad r.2 rest) s.heap.size r.1) args s 0 0 (va_A w0 s.heap.size)) (wM cI cZ ad S rest) 0 0 0 [(0, .ref (ad 0)), (1, .int x1), (2, .int x2), (3, .int x3), (4, .int x4)] [] := by
  unfold X6_add at h
  refine x_aload_n C 0 dX6_add_0 rfl ?_
  refine x_aload_n C 0 dX6_add_1 rfl ?_
  refine x_iload_n C 1 dX6_add_2 rfl ?_
  refine x_iload_n C 2 dX6_add_3 rfl ?_
  obtain ⟨⟨v4, S4⟩, hg4, h⟩ := ob h
  refine x_ci0 (x_runV C (As := [.int x1, .int x2]) (rest := [.ref (ad 0)]) (c_X6_isHere hg4) (cw_X6_add_X6_isHere_127 C) 0 rfl rfl rfl (Nat.le_of_ble_eq_true rfl) dX6_add_4 ⟨Nat.zero_le _, Nat.zero_le _⟩) ?_
  exact X_X6_add_b7 C h
set_option maxRecDepth 100000 in
theorem c_X6_add {l : Launch} {D : va_G} {cI cZ cJ : ClassId} {ad : Nat → Nat} {S : St} {rest : va_W} {x1 x2 x3 x4 : Int32} {r : Int32 × St} (h : X6_add S x1 x2 x3 x4 = some r) : ∀ sz, Met l yX6_add wsX6_add rm_X6_add (PC D (t3 cI cZ cJ) [.ref (ad 0), .int x1, .int x2, .int x3, .int x4] (wM cI cZ ad S rest) sz) (QI D (t3 cI cZ cJ) (wM cI cZ ad S rest) (wM cI cZ ad r.2 rest) sz r.1) 0 0 (va_A (wM cI cZ ad S rest) sz) := by
  refine x_met (Qc := fun sz => QI D (t3 cI cZ cJ) (wM cI cZ ad S rest) (wM cI cZ ad r.2 rest) sz r.1) RX6 rfl (by decide) rfl (Nat.le_of_ble_eq_true rfl) (fun p e s m args below meth c C => ?_)
  exact X_X6_add C h
/-! EntryMastersModel.set(IIII)I -/
abbrev rm_X6_set : Room := { frames := 6, cells := 0, slots := 0, locals := 136 }
theorem hi_X6_set_6 : ∀ z ∈ u_ws RX6 TX6 26, z ∈ wsX6_set := by decide +kernel
theorem lk_X6_set_28 : Cond.fieldLink RX6 28 RX6 "which" "[I" ∈ wsX6_set := by decide +kernel
theorem lk_X6_set_31 : Cond.fieldLink RX6 31 RX6 "worth" "[I" ∈ wsX6_set := by decide +kernel
theorem lk_X6_set_74 : Cond.fieldLink RX6 74 RX6 "value" "[I" ∈ wsX6_set := by decide +kernel
theorem lk_X6_set_80 : Cond.fieldLink RX6 80 RX6 "thrown" "I" ∈ wsX6_set := by decide +kernel
theorem lk_X6_set_88 : Cond.fieldLink RX6 88 RX6 "changes" "I" ∈ wsX6_set := by decide +kernel
theorem cw_X6_set_X6_allowed_103 {p : Program} {s : State} {m : MethodId} {args : Array Value} {meth : Method} {c : Code} {D : va_G} {tys : List (ClassId × FieldType)} {R : Room} (C : XC p R s m args meth c cX6_set 6 (some .int) RX6 wsX6_set D tys) : CallW rm_X6_set s args RX6 RX6 103 yX6_allowed cX6_allowed 3 (some .boolean) wsX6_allowed rm_X6_allowed 0 0 2 := cwV 2 C.2.2.2.2.1 gX6_set_X6_allowed rfl rfl rfl (by decide +kernel) ⟨Nat.le_of_ble_eq_true rfl, Nat.le_of_ble_eq_true rfl⟩
theorem cw_X6_set_X6_isHere_127 {p : Program} {s : State} {m : MethodId} {args : Array Value} {meth : Method} {c : Code} {D : va_G} {tys : List (ClassId × FieldType)} {R : Room} (C : XC p R s m args meth c cX6_set 6 (some .int) RX6 wsX6_set D tys) : CallW rm_X6_set s args RX6 RX6 127 yX6_isHere cX6_isHere 3 (some .boolean) wsX6_isHere rm_X6_isHere 0 0 2 := cwV 2 C.2.2.2.2.1 gX6_set_X6_isHere rfl rfl rfl (by decide +kernel) ⟨Nat.le_of_ble_eq_true rfl, Nat.le_of_ble_eq_true rfl⟩
theorem cw_X6_set_X6_isIn_84 {p : Program} {s : State} {m : MethodId} {args : Array Value} {meth : Method} {c : Code} {D : va_G} {tys : List (ClassId × FieldType)} {R : Room} (C : XC p R s m args meth c cX6_set 6 (some .int) RX6 wsX6_set D tys) : CallB rm_X6_set s args RX6 84 yX6_isIn cX6_isIn 3 (some .boolean) wsX6_isIn rm_X6_isIn 0 0 3 ∧ (Cond.static yX6_isIn).before args s = true := va_cwS 3 C.2.2.2.2.1 gX6_set_X6_isIn rfl rfl rfl (by decide +kernel) ⟨Nat.le_of_ble_eq_true rfl, Nat.le_of_ble_eq_true rfl⟩
theorem cw_X6_set_X6_made_130 {p : Program} {s : State} {m : MethodId} {args : Array Value} {meth : Method} {c : Code} {D : va_G} {tys : List (ClassId × FieldType)} {R : Room} (C : XC p R s m args meth c cX6_set 6 (some .int) RX6 wsX6_set D tys) : CallW rm_X6_set s args RX6 RX6 130 yX6_made cX6_made 6 (some .int) wsX6_made rm_X6_made 0 0 3 := cwV 3 C.2.2.2.2.1 gX6_set_X6_made rfl rfl rfl (by decide +kernel) ⟨Nat.le_of_ble_eq_true rfl, Nat.le_of_ble_eq_true rfl⟩
def X6_set_b99 (S : St) (x2 x3 : Int32) : Option (Int32 × St) :=
  if inB ((4 * x2) + x3) 168 then (some (S 22 ((4 * x2) + x3).toNatClampNeg, S)) else none
set_option maxHeartbeats 4000000 in
set_option maxRecDepth 100000 in
theorem X_X6_set_b99 {p : Program} {l : Launch} {e : Env} {s : State} {m : MethodId} {args : Array Value} {below : List Frame} {meth : Method} {c : Code} {D : va_G} {cI cZ cJ : ClassId} {ad : Nat → Nat} {rest w0 : va_W} (C : XC p rm_X6_set s m args meth c cX6_set 6 (some .int) RX6 wsX6_set D (t3 cI cZ cJ)) {S : St} {x2 x3 : Int32} {r : Int32 × St} (h : X6_set_b99 S x2 x3 = some r) : XW p l e rm_X6_set s m args below meth c D w0 6 (MQ below (QI D (t3 cI cZ cJ) w0 (wM cI cZ ad r.2 rest) s.heap.size r.1) args s 0 0 (va_A w0 s.heap.size)) (wM cI cZ ad S rest) 0 0 99 [(0, .ref (ad 0)), (2, .int x2), (3, .int x3)] [] := by
  unfold X6_set_b99 at h
  refine x_aload_n C 0 dX6_set_99 rfl ?_
  refine x_get C (R' := RX6) (T := TX6) (N := 26) (ci := 6) 0 23 rfl rfl (by decide) rfl rfl hi_X6_set_6 lk_X6_set_74 dX6_set_100 ?_
  refine x_iconst C (v := 4) dX6_set_103 (by decide) ?_
  refine x_iload_n C 1 dX6_set_104 rfl ?_
  refine x_imul C dX6_set_105 ?_
  refine x_iload_n C 2 dX6_set_106 rfl ?_
  refine x_iadd C dX6_set_107 ?_
  obtain ⟨g108, h⟩ := gdB h
  refine x_iald C 22 rfl g108 dX6_set_108 ?_
  obtain rfl := Option.some.inj h
  exact x_iret C dX6_set_109
def X6_set_b90 (S : St) (x2 x3 x4 x5 : Int32) : Option (Int32 × St) :=
  if inB x5 40 then (X6_set_b99 (up S 8 (upd (S 8) x5.toNatClampNeg x4)) x2 x3) else none
set_option maxHeartbeats 4000000 in
set_option maxRecDepth 100000 in
theorem X_X6_set_b90 {p : Program} {l : Launch} {e : Env} {s : State} {m : MethodId} {args : Array Value} {below : List Frame} {meth : Method} {c : Code} {D : va_G} {cI cZ cJ : ClassId} {ad : Nat → Nat} {rest w0 : va_W} (C : XC p rm_X6_set s m args meth c cX6_set 6 (some .int) RX6 wsX6_set D (t3 cI cZ cJ)) {S : St} {x2 x3 x4 x5 : Int32} {r : Int32 × St} (h : X6_set_b90 S x2 x3 x4 x5 = some r) : XW p l e rm_X6_set s m args below meth c D w0 6 (MQ below (QI D (t3 cI cZ cJ) w0 (wM cI cZ ad r.2 rest) s.heap.size r.1) args s 0 0 (va_A w0 s.heap.size)) (wM cI cZ ad S rest) 0 0 90 [(0, .ref (ad 0)), (2, .int x2), (3, .int x3), (4, .int x4), (5, .int x5)] [] := by
  unfold X6_set_b90 at h
  refine x_aload_n C 0 dX6_set_90 rfl ?_
  refine x_get C (R' := RX6) (T := TX6) (N := 26) (ci := 6) 0 8 rfl rfl (by decide) rfl rfl hi_X6_set_6 lk_X6_set_31 dX6_set_91 ?_
  refine x_iload C 4 dX6_set_94 rfl ?_
  refine x_iload C 3 dX6_set_96 rfl ?_
  obtain ⟨g98, h⟩ := gdB h
  refine x_iast C 8 rfl g98 dX6_set_98 (wM_s8 cI cZ ad S rest (upd (S 8) x5.toNatClampNeg x4)) ?_
  refine x_locals (lv' := [(0, .ref (ad 0)), (2, .int x2), (3, .int x3)]) [0, 1, 2] rfl ?_
  exact X_X6_set_b99 C h
def X6_set_b80 (S : St) (x2 x3 x4 s0 : Int32) : Option (Int32 × St) :=
  if inB s0 40 then (X6_set_b90 (up S 7 (upd (S 7) s0.toNatClampNeg x3)) x2 x3 x4 s0) else none
set_option maxHeartbeats 4000000 in
set_option maxRecDepth 100000 in
theorem X_X6_set_b80 {p : Program} {l : Launch} {e : Env} {s : State} {m : MethodId} {args : Array Value} {below : List Frame} {meth : Method} {c : Code} {D : va_G} {cI cZ cJ : ClassId} {ad : Nat → Nat} {rest w0 : va_W} (C : XC p rm_X6_set s m args meth c cX6_set 6 (some .int) RX6 wsX6_set D (t3 cI cZ cJ)) {S : St} {x2 x3 x4 s0 : Int32} {r : Int32 × St} (h : X6_set_b80 S x2 x3 x4 s0 = some r) : XW p l e rm_X6_set s m args below meth c D w0 6 (MQ below (QI D (t3 cI cZ cJ) w0 (wM cI cZ ad r.2 rest) s.heap.size r.1) args s 0 0 (va_A w0 s.heap.size)) (wM cI cZ ad S rest) 0 0 80 [(0, .ref (ad 0)), (2, .int x2), (3, .int x3), (4, .int x4)] [.int s0] := by
  unfold X6_set_b80 at h
  refine x_istore C (lv' := [(0, .ref (ad 0)), (2, .int x2), (3, .int x3), (4, .int x4), (5, .int s0)]) dX6_set_80 (by decide) rfl ?_
  refine x_aload_n C 0 dX6_set_82 rfl ?_
  refine x_get C (R' := RX6) (T := TX6) (N := 26) (ci := 6) 0 7 rfl rfl (by decide) rfl rfl hi_X6_set_6 lk_X6_set_28 dX6_set_83 ?_
  refine x_iload C 4 dX6_set_86 rfl ?_
  refine x_iload_n C 2 dX6_set_88 rfl ?_
  obtain ⟨g89, h⟩ := gdB h
  refine x_iast C 7 rfl g89 dX6_set_89 (wM_s7 cI cZ ad S rest (upd (S 7) s0.toNatClampNeg x3)) ?_
  exact X_X6_set_b90 C h
def X6_set_b64 (S : St) (x1 x2 x3 x4 : Int32) : Option (Int32 × St) :=
  if (S 0 25) ≤ 0 then ((X6_made S x1 1 x2).bind fun q77 => X6_set_b80 q77.2 x2 x3 x4 q77.1) else (some (0, S))
set_option maxHeartbeats 4000000 in
set_option maxRecDepth 100000 in
theorem X_X6_set_b64 {p : Program} {l : Launch} {e : Env} {s : State} {m : MethodId} {args : Array Value} {below : List Frame} {meth : Method} {c : Code} {D : va_G} {cI cZ cJ : ClassId} {ad : Nat → Nat} {rest w0 : va_W} (C : XC p rm_X6_set s m args meth c cX6_set 6 (some .int) RX6 wsX6_set D (t3 cI cZ cJ)) {S : St} {x1 x2 x3 x4 : Int32} {r : Int32 × St} (h : X6_set_b64 S x1 x2 x3 x4 = some r) : XW p l e rm_X6_set s m args below meth c D w0 6 (MQ below (QI D (t3 cI cZ cJ) w0 (wM cI cZ ad r.2 rest) s.heap.size r.1) args s 0 0 (va_A w0 s.heap.size)) (wM cI cZ ad S rest) 0 0 64 [(0, .ref (ad 0)), (1, .int x1), (2, .int x2), (3, .int x3), (4, .int x4)] [] := by
  unfold X6_set_b64 at h
  refine x_aload_n C 0 dX6_set_64 rfl ?_
  refine x_get C (R' := RX6) (T := TX6) (N := 26) (ci := 6) 0 25 rfl rfl (by decide) rfl rfl hi_X6_set_6 lk_X6_set_80 dX6_set_65 ?_
  refine x_if_le C (t := 73) dX6_set_68 (by decide) (fun c68 => ?_) (fun c68 => ?_)
  · replace h := (if_pos c68).symm.trans h
    refine x_aload_n C 0 dX6_set_73 rfl ?_
    refine x_iload_n C 1 dX6_set_74 rfl ?_
    refine x_iconst C (v := 1) dX6_set_75 (by decide) ?_
    refine x_iload_n C 2 dX6_set_76 rfl ?_
    obtain ⟨⟨v77, S77⟩, hg77, h⟩ := ob h
    refine x_ci0 (x_runV C (As := [.int x1, .int 1, .int x2]) (rest := []) (c_X6_made hg77) (cw_X6_set_X6_made_130 C) 0 rfl rfl rfl (Nat.le_of_ble_eq_true rfl) dX6_set_77 ⟨Nat.zero_le _, Nat.zero_le _⟩) ?_
    refine x_locals (lv' := [(0, .ref (ad 0)), (2, .int x2), (3, .int x3), (4, .int x4)]) [0, 2, 3, 4] rfl ?_
    exact X_X6_set_b80 C h
  · replace h := (if_neg c68).symm.trans h
    refine x_iconst C (v := 0) dX6_set_71 (by decide) ?_
    obtain rfl := Option.some.inj h
    exact x_iret C dX6_set_72
def X6_set_b61 (S : St) (x1 x2 x3 x4 s0 : Int32) : Option (Int32 × St) :=
  X6_set_b64 (up S 0 (upd (S 0) 25 s0)) x1 x2 x3 x4
set_option maxHeartbeats 4000000 in
set_option maxRecDepth 100000 in
theorem X_X6_set_b61 {p : Program} {l : Launch} {e : Env} {s : State} {m : MethodId} {args : Array Value} {below : List Frame} {meth : Method} {c : Code} {D : va_G} {cI cZ cJ : ClassId} {ad : Nat → Nat} {rest w0 : va_W} (C : XC p rm_X6_set s m args meth c cX6_set 6 (some .int) RX6 wsX6_set D (t3 cI cZ cJ)) {S : St} {x1 x2 x3 x4 s0 : Int32} {r : Int32 × St} (h : X6_set_b61 S x1 x2 x3 x4 s0 = some r) : XW p l e rm_X6_set s m args below meth c D w0 6 (MQ below (QI D (t3 cI cZ cJ) w0 (wM cI cZ ad r.2 rest) s.heap.size r.1) args s 0 0 (va_A w0 s.heap.size)) (wM cI cZ ad S rest) 0 0 61 [(0, .ref (ad 0)), (1, .int x1), (2, .int x2), (3, .int x3), (4, .int x4)] [.int s0, .ref (ad 0)] := by
  unfold X6_set_b61 at h
  refine x_put C (R' := RX6) (T := TX6) (N := 26) (ci := 6) tyX6 tyX6_ok nmX6 0 25 rfl rfl (by decide) rfl rfl (lt_ble rfl) rfl hi_X6_set_6 lk_X6_set_80 dX6_set_61 (wM_f0_25 cI cZ ad S rest s0) ?_
  exact X_X6_set_b64 C h
def X6_set_b19 (S : St) (x1 x2 x3 x4 : Int32) : Option (Int32 × St) :=
  X6_set_b61 S x1 x2 x3 x4 1
set_option maxHeartbeats 4000000 in
set_option maxRecDepth 100000 in
theorem X_X6_set_b19 {p : Program} {l : Launch} {e : Env} {s : State} {m : MethodId} {args : Array Value} {below : List Frame} {meth : Method} {c : Code} {D : va_G} {cI cZ cJ : ClassId} {ad : Nat → Nat} {rest w0 : va_W} (C : XC p rm_X6_set s m args meth c cX6_set 6 (some .int) RX6 wsX6_set D (t3 cI cZ cJ)) {S : St} {x1 x2 x3 x4 : Int32} {r : Int32 × St} (h : X6_set_b19 S x1 x2 x3 x4 = some r) : XW p l e rm_X6_set s m args below meth c D w0 6 (MQ below (QI D (t3 cI cZ cJ) w0 (wM cI cZ ad r.2 rest) s.heap.size r.1) args s 0 0 (va_A w0 s.heap.size)) (wM cI cZ ad S rest) 0 0 19 [(0, .ref (ad 0)), (1, .int x1), (2, .int x2), (3, .int x3), (4, .int x4)] [.ref (ad 0)] := by
  unfold X6_set_b19 at h
  refine x_iconst C (v := 1) dX6_set_19 (by decide) ?_
  refine x_goto C (t := 61) dX6_set_20 (by decide) ?_
  exact X_X6_set_b61 C h
def X6_set_b56 (S : St) (x1 x2 x3 x4 : Int32) : Option (Int32 × St) :=
  X6_set_b61 S x1 x2 x3 x4 3
set_option maxHeartbeats 4000000 in
set_option maxRecDepth 100000 in
theorem X_X6_set_b56 {p : Program} {l : Launch} {e : Env} {s : State} {m : MethodId} {args : Array Value} {below : List Frame} {meth : Method} {c : Code} {D : va_G} {cI cZ cJ : ClassId} {ad : Nat → Nat} {rest w0 : va_W} (C : XC p rm_X6_set s m args meth c cX6_set 6 (some .int) RX6 wsX6_set D (t3 cI cZ cJ)) {S : St} {x1 x2 x3 x4 : Int32} {r : Int32 × St} (h : X6_set_b56 S x1 x2 x3 x4 = some r) : XW p l e rm_X6_set s m args below meth c D w0 6 (MQ below (QI D (t3 cI cZ cJ) w0 (wM cI cZ ad r.2 rest) s.heap.size r.1) args s 0 0 (va_A w0 s.heap.size)) (wM cI cZ ad S rest) 0 0 56 [(0, .ref (ad 0)), (1, .int x1), (2, .int x2), (3, .int x3), (4, .int x4)] [.ref (ad 0)] := by
  unfold X6_set_b56 at h
  refine x_iconst C (v := 3) dX6_set_56 (by decide) ?_
  refine x_goto C (t := 61) dX6_set_57 (by decide) ?_
  exact X_X6_set_b61 C h
def X6_set_b7 (S : St) (x1 x2 x3 x4 s0 : Int32) : Option (Int32 × St) :=
  if s0 = 0 then (X6_set_b19 S x1 x2 x3 x4) else ((X6_isIn x3 0 3).bind fun v13 => if v13 = 0 then (X6_set_b19 S x1 x2 x3 x4) else ((X6_isIn x4 (-1) 9).bind fun v28 => if v28 = 0 then (X6_set_b61 S x1 x2 x3 x4 2) else (if (S 0 2) = 40 then (X6_set_b56 S x1 x2 x3 x4) else ((X6_allowed S x2 x3).bind fun v50 => if v50 = 0 then (X6_set_b56 S x1 x2 x3 x4) else (X6_set_b61 S x1 x2 x3 x4 0)))))
set_option maxHeartbeats 4000000 in
set_option maxRecDepth 100000 in
theorem X_X6_set_b7 {p : Program} {l : Launch} {e : Env} {s : State} {m : MethodId} {args : Array Value} {below : List Frame} {meth : Method} {c : Code} {D : va_G} {cI cZ cJ : ClassId} {ad : Nat → Nat} {rest w0 : va_W} (C : XC p rm_X6_set s m args meth c cX6_set 6 (some .int) RX6 wsX6_set D (t3 cI cZ cJ)) {S : St} {x1 x2 x3 x4 s0 : Int32} {r : Int32 × St} (h : X6_set_b7 S x1 x2 x3 x4 s0 = some r) : XW p l e rm_X6_set s m args below meth c D w0 6 (MQ below (QI D (t3 cI cZ cJ) w0 (wM cI cZ ad r.2 rest) s.heap.size r.1) args s 0 0 (va_A w0 s.heap.size)) (wM cI cZ ad S rest) 0 0 7 [(0, .ref (ad 0)), (1, .int x1), (2, .int x2), (3, .int x3), (4, .int x4)] [.int s0, .ref (ad 0)] := by
  unfold X6_set_b7 at h
  refine x_if_eq C (t := 19) dX6_set_7 (by decide) (fun c7 => ?_) (fun c7 => ?_)
  · replace h := (if_pos c7).symm.trans h
    exact X_X6_set_b19 C h
  · replace h := (if_neg c7).symm.trans h
    refine x_iload_n C 3 dX6_set_10 rfl ?_
    refine x_iconst C (v := 0) dX6_set_11 (by decide) ?_
    refine x_iconst C (v := 3) dX6_set_12 (by decide) ?_
    obtain ⟨v13, hg13, h⟩ := ob h
    refine x_ci0 (x_runS C (As := [.int x3, .int 0, .int 3]) (rest := [.ref (ad 0)]) (c_X6_isIn hg13) (cw_X6_set_X6_isIn_84 C) rfl (Nat.le_of_ble_eq_true rfl) dX6_set_13 ⟨Nat.zero_le _, Nat.zero_le _⟩) ?_
    refine x_if_ne C (t := 23) dX6_set_16 (by decide) (fun c16 => ?_) (fun c16 => ?_)
    · replace h := (if_neg c16).symm.trans h
      refine x_iload C 4 dX6_set_23 rfl ?_
      refine x_iconst C (v := (-1)) dX6_set_25 (by decide) ?_
      refine x_bipush C (v := 9) dX6_set_26 (by decide) ?_
      obtain ⟨v28, hg28, h⟩ := ob h
      refine x_ci0 (x_runS C (As := [.int x4, .int (-1), .int 9]) (rest := [.ref (ad 0)]) (c_X6_isIn hg28) (cw_X6_set_X6_isIn_84 C) rfl (Nat.le_of_ble_eq_true rfl) dX6_set_28 ⟨Nat.zero_le _, Nat.zero_le _⟩) ?_
      refine x_if_ne C (t := 38) dX6_set_31 (by decide) (fun c31 => ?_) (fun c31 => ?_)
      · replace h := (if_neg c31).symm.trans h
        refine x_aload_n C 0 dX6_set_38 rfl ?_
        refine x_get C (R' := RX6) (T := TX6) (N := 26) (ci := 6) 0 2 rfl rfl (by decide) rfl rfl hi_X6_set_6 lk_X6_set_88 dX6_set_39 ?_
        refine x_bipush C (v := 40) dX6_set_42 (by decide) ?_
        refine x_icmp_eq C (t := 56) dX6_set_44 (by decide) (fun c44 => ?_) (fun c44 => ?_)
        · replace h := (if_pos c44).symm.trans h
          exact X_X6_set_b56 C h
        · replace h := (if_neg c44).symm.trans h
          refine x_aload_n C 0 dX6_set_47 rfl ?_
          refine x_iload_n C 2 dX6_set_48 rfl ?_
          refine x_iload_n C 3 dX6_set_49 rfl ?_
          obtain ⟨v50, hg50, h⟩ := ob h
          refine x_ci0 (x_runV C (As := [.int x2, .int x3]) (rest := [.ref (ad 0)]) (c_X6_allowed hg50) (cw_X6_set_X6_allowed_103 C) 0 rfl rfl rfl (Nat.le_of_ble_eq_true rfl) dX6_set_50 ⟨Nat.zero_le _, Nat.zero_le _⟩) ?_
          refine x_if_ne C (t := 60) dX6_set_53 (by decide) (fun c53 => ?_) (fun c53 => ?_)
          · replace h := (if_neg c53).symm.trans h
            refine x_iconst C (v := 0) dX6_set_60 (by decide) ?_
            exact X_X6_set_b61 C h
          · replace h := (if_pos c53).symm.trans h
            exact X_X6_set_b56 C h
      · replace h := (if_pos c31).symm.trans h
        refine x_iconst C (v := 2) dX6_set_34 (by decide) ?_
        refine x_goto C (t := 61) dX6_set_35 (by decide) ?_
        exact X_X6_set_b61 C h
    · replace h := (if_pos c16).symm.trans h
      exact X_X6_set_b19 C h
def X6_set (S : St) (x1 x2 x3 x4 : Int32) : Option (Int32 × St) :=
  (X6_isHere S x1 x2).bind fun q4 => X6_set_b7 q4.2 x1 x2 x3 x4 q4.1
set_option maxHeartbeats 4000000 in
set_option maxRecDepth 100000 in
theorem X_X6_set {p : Program} {l : Launch} {e : Env} {s : State} {m : MethodId} {args : Array Value} {below : List Frame} {meth : Method} {c : Code} {D : va_G} {cI cZ cJ : ClassId} {ad : Nat → Nat} {rest w0 : va_W} (C : XC p rm_X6_set s m args meth c cX6_set 6 (some .int) RX6 wsX6_set D (t3 cI cZ cJ)) {S : St} {x1 x2 x3 x4 : Int32} {r : Int32 × St} (h : X6_set S x1 x2 x3 x4 = some r) : XW p l e rm_X6_set s m args below meth c D w0 6 (MQ below (QI D (t3 cI cZ cJ) w0 (wM cI cZ ad r.2 rest) s.heap.size r.1) args s 0 0 (va_A w0 s.heap.size)) (wM cI cZ ad S rest) 0 0 0 [(0, .ref (ad 0)), (1, .int x1), (2, .int x2), (3, .int x3), (4, .int x4)] [] := by
  unfold X6_set at h
  refine x_aload_n C 0 dX6_set_0 rfl ?_
  refine x_aload_n C 0 dX6_set_1 rfl ?_
  refine x_iload_n C 1 dX6_set_2 rfl ?_
  refine x_iload_n C 2 dX6_set_3 rfl ?_
  obtain ⟨⟨v4, S4⟩, hg4, h⟩ := ob h
  refine x_ci0 (x_runV C (As := [.int x1, .int x2]) (rest := [.ref (ad 0)]) (c_X6_isHere hg4) (cw_X6_set_X6_isHere_127 C) 0 rfl rfl rfl (Nat.le_of_ble_eq_true rfl) dX6_set_4 ⟨Nat.zero_le _, Nat.zero_le _⟩) ?_
  exact X_X6_set_b7 C h
set_option maxRecDepth 100000 in
theorem c_X6_set {l : Launch} {D : va_G} {cI cZ cJ : ClassId} {ad : Nat → Nat} {S : St} {rest : va_W} {x1 x2 x3 x4 : Int32} {r : Int32 × St} (h : X6_set S x1 x2 x3 x4 = some r) : ∀ sz, Met l yX6_set wsX6_set rm_X6_set (PC D (t3 cI cZ cJ) [.ref (ad 0), .int x1, .int x2, .int x3, .int x4] (wM cI cZ ad S rest) sz) (QI D (t3 cI cZ cJ) (wM cI cZ ad S rest) (wM cI cZ ad r.2 rest) sz r.1) 0 0 (va_A (wM cI cZ ad S rest) sz) := by
  refine x_met (Qc := fun sz => QI D (t3 cI cZ cJ) (wM cI cZ ad S rest) (wM cI cZ ad r.2 rest) sz r.1) RX6 rfl (by decide) rfl (Nat.le_of_ble_eq_true rfl) (fun p e s m args below meth c C => ?_)
  exact X_X6_set C h
/-! EntryMastersModel.move(IIII)I -/
abbrev rm_X6_move : Room := { frames := 6, cells := 0, slots := 0, locals := 136 }
theorem hi_X6_move_6 : ∀ z ∈ u_ws RX6 TX6 26, z ∈ wsX6_move := by decide +kernel
theorem lk_X6_move_22 : Cond.fieldLink RX6 22 RX6 "under" "[I" ∈ wsX6_move := by decide +kernel
theorem lk_X6_move_25 : Cond.fieldLink RX6 25 RX6 "named" "[I" ∈ wsX6_move := by decide +kernel
theorem lk_X6_move_65 : Cond.fieldLink RX6 65 RX6 "parent" "[I" ∈ wsX6_move := by decide +kernel
theorem lk_X6_move_80 : Cond.fieldLink RX6 80 RX6 "thrown" "I" ∈ wsX6_move := by decide +kernel
theorem lk_X6_move_88 : Cond.fieldLink RX6 88 RX6 "changes" "I" ∈ wsX6_move := by decide +kernel
theorem cw_X6_move_X6_finds_95 {p : Program} {s : State} {m : MethodId} {args : Array Value} {meth : Method} {c : Code} {D : va_G} {tys : List (ClassId × FieldType)} {R : Room} (C : XC p R s m args meth c cX6_move 7 (some .int) RX6 wsX6_move D tys) : CallW rm_X6_move s args RX6 RX6 95 yX6_finds cX6_finds 6 (some .int) wsX6_finds rm_X6_finds 0 0 3 := cwV 3 C.2.2.2.2.1 gX6_move_X6_finds rfl rfl rfl (by decide +kernel) ⟨Nat.le_of_ble_eq_true rfl, Nat.le_of_ble_eq_true rfl⟩
theorem cw_X6_move_X6_isHere_127 {p : Program} {s : State} {m : MethodId} {args : Array Value} {meth : Method} {c : Code} {D : va_G} {tys : List (ClassId × FieldType)} {R : Room} (C : XC p R s m args meth c cX6_move 7 (some .int) RX6 wsX6_move D tys) : CallW rm_X6_move s args RX6 RX6 127 yX6_isHere cX6_isHere 3 (some .boolean) wsX6_isHere rm_X6_isHere 0 0 2 := cwV 2 C.2.2.2.2.1 gX6_move_X6_isHere rfl rfl rfl (by decide +kernel) ⟨Nat.le_of_ble_eq_true rfl, Nat.le_of_ble_eq_true rfl⟩
theorem cw_X6_move_X6_isIn_84 {p : Program} {s : State} {m : MethodId} {args : Array Value} {meth : Method} {c : Code} {D : va_G} {tys : List (ClassId × FieldType)} {R : Room} (C : XC p R s m args meth c cX6_move 7 (some .int) RX6 wsX6_move D tys) : CallB rm_X6_move s args RX6 84 yX6_isIn cX6_isIn 3 (some .boolean) wsX6_isIn rm_X6_isIn 0 0 3 ∧ (Cond.static yX6_isIn).before args s = true := va_cwS 3 C.2.2.2.2.1 gX6_move_X6_isIn rfl rfl rfl (by decide +kernel) ⟨Nat.le_of_ble_eq_true rfl, Nat.le_of_ble_eq_true rfl⟩
theorem cw_X6_move_X6_isWithin_106 {p : Program} {s : State} {m : MethodId} {args : Array Value} {meth : Method} {c : Code} {D : va_G} {tys : List (ClassId × FieldType)} {R : Room} (C : XC p R s m args meth c cX6_move 7 (some .int) RX6 wsX6_move D tys) : CallW rm_X6_move s args RX6 RX6 106 yX6_isWithin cX6_isWithin 4 (some .boolean) wsX6_isWithin rm_X6_isWithin 0 0 2 := cwV 2 C.2.2.2.2.1 gX6_move_X6_isWithin rfl rfl rfl (by decide +kernel) ⟨Nat.le_of_ble_eq_true rfl, Nat.le_of_ble_eq_true rfl⟩
theorem cw_X6_move_X6_made_130 {p : Program} {s : State} {m : MethodId} {args : Array Value} {meth : Method} {c : Code} {D : va_G} {tys : List (ClassId × FieldType)} {R : Room} (C : XC p R s m args meth c cX6_move 7 (some .int) RX6 wsX6_move D tys) : CallW rm_X6_move s args RX6 RX6 130 yX6_made cX6_made 6 (some .int) wsX6_made rm_X6_made 0 0 3 := cwV 3 C.2.2.2.2.1 gX6_move_X6_made rfl rfl rfl (by decide +kernel) ⟨Nat.le_of_ble_eq_true rfl, Nat.le_of_ble_eq_true rfl⟩
def X6_move_b127 (S : St) (x2 : Int32) : Option (Int32 × St) :=
  if inB x2 42 then (some (S 19 x2.toNatClampNeg, S)) else none
set_option maxHeartbeats 4000000 in
set_option maxRecDepth 100000 in
theorem X_X6_move_b127 {p : Program} {l : Launch} {e : Env} {s : State} {m : MethodId} {args : Array Value} {below : List Frame} {meth : Method} {c : Code} {D : va_G} {cI cZ cJ : ClassId} {ad : Nat → Nat} {rest w0 : va_W} (C : XC p rm_X6_move s m args meth c cX6_move 7 (some .int) RX6 wsX6_move D (t3 cI cZ cJ)) {S : St} {x2 : Int32} {r : Int32 × St} (h : X6_move_b127 S x2 = some r) : XW p l e rm_X6_move s m args below meth c D w0 7 (MQ below (QI D (t3 cI cZ cJ) w0 (wM cI cZ ad r.2 rest) s.heap.size r.1) args s 0 0 (va_A w0 s.heap.size)) (wM cI cZ ad S rest) 0 0 127 [(0, .ref (ad 0)), (2, .int x2)] [] := by
  unfold X6_move_b127 at h
  refine x_aload_n C 0 dX6_move_127 rfl ?_
  refine x_get C (R' := RX6) (T := TX6) (N := 26) (ci := 6) 0 20 rfl rfl (by decide) rfl rfl hi_X6_move_6 lk_X6_move_65 dX6_move_128 ?_
  refine x_iload_n C 1 dX6_move_131 rfl ?_
  obtain ⟨g132, h⟩ := gdB h
  refine x_iald C 19 rfl g132 dX6_move_132 ?_
  obtain rfl := Option.some.inj h
  exact x_iret C dX6_move_133
def X6_move_b118 (S : St) (x2 x4 x6 : Int32) : Option (Int32 × St) :=
  if inB x6 40 then (X6_move_b127 (up S 6 (upd (S 6) x6.toNatClampNeg x4)) x2) else none
set_option maxHeartbeats 4000000 in
set_option maxRecDepth 100000 in
theorem X_X6_move_b118 {p : Program} {l : Launch} {e : Env} {s : State} {m : MethodId} {args : Array Value} {below : List Frame} {meth : Method} {c : Code} {D : va_G} {cI cZ cJ : ClassId} {ad : Nat → Nat} {rest w0 : va_W} (C : XC p rm_X6_move s m args meth c cX6_move 7 (some .int) RX6 wsX6_move D (t3 cI cZ cJ)) {S : St} {x2 x4 x6 : Int32} {r : Int32 × St} (h : X6_move_b118 S x2 x4 x6 = some r) : XW p l e rm_X6_move s m args below meth c D w0 7 (MQ below (QI D (t3 cI cZ cJ) w0 (wM cI cZ ad r.2 rest) s.heap.size r.1) args s 0 0 (va_A w0 s.heap.size)) (wM cI cZ ad S rest) 0 0 118 [(0, .ref (ad 0)), (2, .int x2), (4, .int x4), (6, .int x6)] [] := by
  unfold X6_move_b118 at h
  refine x_aload_n C 0 dX6_move_118 rfl ?_
  refine x_get C (R' := RX6) (T := TX6) (N := 26) (ci := 6) 0 6 rfl rfl (by decide) rfl rfl hi_X6_move_6 lk_X6_move_25 dX6_move_119 ?_
  refine x_iload C 3 dX6_move_122 rfl ?_
  refine x_iload C 2 dX6_move_124 rfl ?_
  obtain ⟨g126, h⟩ := gdB h
  refine x_iast C 6 rfl g126 dX6_move_126 (wM_s6 cI cZ ad S rest (upd (S 6) x6.toNatClampNeg x4)) ?_
  refine x_locals (lv' := [(0, .ref (ad 0)), (2, .int x2)]) [0, 1] rfl ?_
  exact X_X6_move_b127 C h
def X6_move_b108 (S : St) (x2 x3 x4 s0 : Int32) : Option (Int32 × St) :=
  if inB s0 40 then (X6_move_b118 (up S 5 (upd (S 5) s0.toNatClampNeg x3)) x2 x4 s0) else none
set_option maxHeartbeats 4000000 in
set_option maxRecDepth 100000 in
theorem X_X6_move_b108 {p : Program} {l : Launch} {e : Env} {s : State} {m : MethodId} {args : Array Value} {below : List Frame} {meth : Method} {c : Code} {D : va_G} {cI cZ cJ : ClassId} {ad : Nat → Nat} {rest w0 : va_W} (C : XC p rm_X6_move s m args meth c cX6_move 7 (some .int) RX6 wsX6_move D (t3 cI cZ cJ)) {S : St} {x2 x3 x4 s0 : Int32} {r : Int32 × St} (h : X6_move_b108 S x2 x3 x4 s0 = some r) : XW p l e rm_X6_move s m args below meth c D w0 7 (MQ below (QI D (t3 cI cZ cJ) w0 (wM cI cZ ad r.2 rest) s.heap.size r.1) args s 0 0 (va_A w0 s.heap.size)) (wM cI cZ ad S rest) 0 0 108 [(0, .ref (ad 0)), (2, .int x2), (3, .int x3), (4, .int x4)] [.int s0] := by
  unfold X6_move_b108 at h
  refine x_istore C (lv' := [(0, .ref (ad 0)), (2, .int x2), (3, .int x3), (4, .int x4), (6, .int s0)]) dX6_move_108 (by decide) rfl ?_
  refine x_aload_n C 0 dX6_move_110 rfl ?_
  refine x_get C (R' := RX6) (T := TX6) (N := 26) (ci := 6) 0 5 rfl rfl (by decide) rfl rfl hi_X6_move_6 lk_X6_move_22 dX6_move_111 ?_
  refine x_iload C 4 dX6_move_114 rfl ?_
  refine x_iload_n C 2 dX6_move_116 rfl ?_
  obtain ⟨g117, h⟩ := gdB h
  refine x_iast C 5 rfl g117 dX6_move_117 (wM_s5 cI cZ ad S rest (upd (S 5) s0.toNatClampNeg x3)) ?_
  refine x_locals (lv' := [(0, .ref (ad 0)), (2, .int x2), (4, .int x4), (6, .int s0)]) [0, 1, 3, 4] rfl ?_
  exact X_X6_move_b118 C h
def X6_move_b92 (S : St) (x1 x2 x3 x4 : Int32) : Option (Int32 × St) :=
  if (S 0 25) ≤ 0 then ((X6_made S x1 2 x2).bind fun q105 => X6_move_b108 q105.2 x2 x3 x4 q105.1) else (some (0, S))
set_option maxHeartbeats 4000000 in
set_option maxRecDepth 100000 in
theorem X_X6_move_b92 {p : Program} {l : Launch} {e : Env} {s : State} {m : MethodId} {args : Array Value} {below : List Frame} {meth : Method} {c : Code} {D : va_G} {cI cZ cJ : ClassId} {ad : Nat → Nat} {rest w0 : va_W} (C : XC p rm_X6_move s m args meth c cX6_move 7 (some .int) RX6 wsX6_move D (t3 cI cZ cJ)) {S : St} {x1 x2 x3 x4 : Int32} {r : Int32 × St} (h : X6_move_b92 S x1 x2 x3 x4 = some r) : XW p l e rm_X6_move s m args below meth c D w0 7 (MQ below (QI D (t3 cI cZ cJ) w0 (wM cI cZ ad r.2 rest) s.heap.size r.1) args s 0 0 (va_A w0 s.heap.size)) (wM cI cZ ad S rest) 0 0 92 [(0, .ref (ad 0)), (1, .int x1), (2, .int x2), (3, .int x3), (4, .int x4)] [] := by
  unfold X6_move_b92 at h
  refine x_aload_n C 0 dX6_move_92 rfl ?_
  refine x_get C (R' := RX6) (T := TX6) (N := 26) (ci := 6) 0 25 rfl rfl (by decide) rfl rfl hi_X6_move_6 lk_X6_move_80 dX6_move_93 ?_
  refine x_if_le C (t := 101) dX6_move_96 (by decide) (fun c96 => ?_) (fun c96 => ?_)
  · replace h := (if_pos c96).symm.trans h
    refine x_aload_n C 0 dX6_move_101 rfl ?_
    refine x_iload_n C 1 dX6_move_102 rfl ?_
    refine x_iconst C (v := 2) dX6_move_103 (by decide) ?_
    refine x_iload_n C 2 dX6_move_104 rfl ?_
    obtain ⟨⟨v105, S105⟩, hg105, h⟩ := ob h
    refine x_ci0 (x_runV C (As := [.int x1, .int 2, .int x2]) (rest := []) (c_X6_made hg105) (cw_X6_move_X6_made_130 C) 0 rfl rfl rfl (Nat.le_of_ble_eq_true rfl) dX6_move_105 ⟨Nat.zero_le _, Nat.zero_le _⟩) ?_
    refine x_locals (lv' := [(0, .ref (ad 0)), (2, .int x2), (3, .int x3), (4, .int x4)]) [0, 2, 3, 4] rfl ?_
    exact X_X6_move_b108 C h
  · replace h := (if_neg c96).symm.trans h
    refine x_iconst C (v := 0) dX6_move_99 (by decide) ?_
    obtain rfl := Option.some.inj h
    exact x_iret C dX6_move_100
def X6_move_b89 (S : St) (x1 x2 x3 x4 s0 : Int32) : Option (Int32 × St) :=
  X6_move_b92 (up S 0 (upd (S 0) 25 s0)) x1 x2 x3 x4
set_option maxHeartbeats 4000000 in
set_option maxRecDepth 100000 in
theorem X_X6_move_b89 {p : Program} {l : Launch} {e : Env} {s : State} {m : MethodId} {args : Array Value} {below : List Frame} {meth : Method} {c : Code} {D : va_G} {cI cZ cJ : ClassId} {ad : Nat → Nat} {rest w0 : va_W} (C : XC p rm_X6_move s m args meth c cX6_move 7 (some .int) RX6 wsX6_move D (t3 cI cZ cJ)) {S : St} {x1 x2 x3 x4 s0 : Int32} {r : Int32 × St} (h : X6_move_b89 S x1 x2 x3 x4 s0 = some r) : XW p l e rm_X6_move s m args below meth c D w0 7 (MQ below (QI D (t3 cI cZ cJ) w0 (wM cI cZ ad r.2 rest) s.heap.size r.1) args s 0 0 (va_A w0 s.heap.size)) (wM cI cZ ad S rest) 0 0 89 [(0, .ref (ad 0)), (1, .int x1), (2, .int x2), (3, .int x3), (4, .int x4)] [.int s0, .ref (ad 0)] := by
  unfold X6_move_b89 at h
  refine x_put C (R' := RX6) (T := TX6) (N := 26) (ci := 6) tyX6 tyX6_ok nmX6 0 25 rfl rfl (by decide) rfl rfl (lt_ble rfl) rfl hi_X6_move_6 lk_X6_move_80 dX6_move_89 (wM_f0_25 cI cZ ad S rest s0) ?_
  exact X_X6_move_b92 C h
def X6_move_b84 (S : St) (x1 x2 x3 x4 : Int32) : Option (Int32 × St) :=
  X6_move_b89 S x1 x2 x3 x4 3
set_option maxHeartbeats 4000000 in
set_option maxRecDepth 100000 in
theorem X_X6_move_b84 {p : Program} {l : Launch} {e : Env} {s : State} {m : MethodId} {args : Array Value} {below : List Frame} {meth : Method} {c : Code} {D : va_G} {cI cZ cJ : ClassId} {ad : Nat → Nat} {rest w0 : va_W} (C : XC p rm_X6_move s m args meth c cX6_move 7 (some .int) RX6 wsX6_move D (t3 cI cZ cJ)) {S : St} {x1 x2 x3 x4 : Int32} {r : Int32 × St} (h : X6_move_b84 S x1 x2 x3 x4 = some r) : XW p l e rm_X6_move s m args below meth c D w0 7 (MQ below (QI D (t3 cI cZ cJ) w0 (wM cI cZ ad r.2 rest) s.heap.size r.1) args s 0 0 (va_A w0 s.heap.size)) (wM cI cZ ad S rest) 0 0 84 [(0, .ref (ad 0)), (1, .int x1), (2, .int x2), (3, .int x3), (4, .int x4)] [.ref (ad 0)] := by
  unfold X6_move_b84 at h
  refine x_iconst C (v := 3) dX6_move_84 (by decide) ?_
  refine x_goto C (t := 89) dX6_move_85 (by decide) ?_
  exact X_X6_move_b89 C h
def X6_move_b23 (S : St) (x1 x2 x3 x4 s0 : Int32) : Option (Int32 × St) :=
  if s0 = 0 then (X6_move_b89 S x1 x2 x3 x4 1) else ((X6_isIn x4 0 99).bind fun v40 => if v40 = 0 then (X6_move_b89 S x1 x2 x3 x4 2) else (if (S 0 2) = 40 then (X6_move_b84 S x1 x2 x3 x4) else (if x2 < 2 then (X6_move_b84 S x1 x2 x3 x4) else ((X6_isWithin S x3 x2).bind fun v67 => if v67 = 0 then ((X6_finds S x3 x4 x2).bind fun v78 => if v78 < 0 then (X6_move_b89 S x1 x2 x3 x4 0) else (X6_move_b84 S x1 x2 x3 x4)) else (X6_move_b84 S x1 x2 x3 x4)))))
set_option maxHeartbeats 4000000 in
set_option maxRecDepth 100000 in
theorem X_X6_move_b23 {p : Program} {l : Launch} {e : Env} {s : State} {m : MethodId} {args : Array Value} {below : List Frame} {meth : Method} {c : Code} {D : va_G} {cI cZ cJ : ClassId} {ad : Nat → Nat} {rest w0 : va_W} (C : XC p rm_X6_move s m args meth c cX6_move 7 (some .int) RX6 wsX6_move D (t3 cI cZ cJ)) {S : St} {x1 x2 x3 x4 s0 : Int32} {r : Int32 × St} (h : X6_move_b23 S x1 x2 x3 x4 s0 = some r) : XW p l e rm_X6_move s m args below meth c D w0 7 (MQ below (QI D (t3 cI cZ cJ) w0 (wM cI cZ ad r.2 rest) s.heap.size r.1) args s 0 0 (va_A w0 s.heap.size)) (wM cI cZ ad S rest) 0 0 23 [(0, .ref (ad 0)), (1, .int x1), (2, .int x2), (3, .int x3), (4, .int x4)] [.int s0] := by
  unfold X6_move_b23 at h
  refine x_istore C (lv' := [(0, .ref (ad 0)), (1, .int x1), (2, .int x2), (3, .int x3), (4, .int x4), (5, .int s0)]) dX6_move_23 (by decide) rfl ?_
  refine x_aload_n C 0 dX6_move_25 rfl ?_
  refine x_iload C 5 dX6_move_26 rfl ?_
  refine x_if_ne C (t := 35) dX6_move_28 (by decide) (fun c28 => ?_) (fun c28 => ?_)
  · replace h := (if_neg c28).symm.trans h
    refine x_iload C 4 dX6_move_35 rfl ?_
    refine x_iconst C (v := 0) dX6_move_37 (by decide) ?_
    refine x_bipush C (v := 99) dX6_move_38 (by decide) ?_
    obtain ⟨v40, hg40, h⟩ := ob h
    refine x_ci0 (x_runS C (As := [.int x4, .int 0, .int 99]) (rest := [.ref (ad 0)]) (c_X6_isIn hg40) (cw_X6_move_X6_isIn_84 C) rfl (Nat.le_of_ble_eq_true rfl) dX6_move_40 ⟨Nat.zero_le _, Nat.zero_le _⟩) ?_
    refine x_if_ne C (t := 50) dX6_move_43 (by decide) (fun c43 => ?_) (fun c43 => ?_)
    · replace h := (if_neg c43).symm.trans h
      refine x_aload_n C 0 dX6_move_50 rfl ?_
      refine x_get C (R' := RX6) (T := TX6) (N := 26) (ci := 6) 0 2 rfl rfl (by decide) rfl rfl hi_X6_move_6 lk_X6_move_88 dX6_move_51 ?_
      refine x_bipush C (v := 40) dX6_move_54 (by decide) ?_
      refine x_icmp_eq C (t := 84) dX6_move_56 (by decide) (fun c56 => ?_) (fun c56 => ?_)
      · replace h := (if_pos c56).symm.trans h
        refine x_locals (lv' := [(0, .ref (ad 0)), (1, .int x1), (2, .int x2), (3, .int x3), (4, .int x4)]) [0, 1, 2, 3, 4] rfl ?_
        exact X_X6_move_b84 C h
      · replace h := (if_neg c56).symm.trans h
        refine x_iload_n C 2 dX6_move_59 rfl ?_
        refine x_iconst C (v := 2) dX6_move_60 (by decide) ?_
        refine x_icmp_lt C (t := 84) dX6_move_61 (by decide) (fun c61 => ?_) (fun c61 => ?_)
        · replace h := (if_pos c61).symm.trans h
          refine x_locals (lv' := [(0, .ref (ad 0)), (1, .int x1), (2, .int x2), (3, .int x3), (4, .int x4)]) [0, 1, 2, 3, 4] rfl ?_
          exact X_X6_move_b84 C h
        · replace h := (if_neg c61).symm.trans h
          refine x_aload_n C 0 dX6_move_64 rfl ?_
          refine x_iload_n C 3 dX6_move_65 rfl ?_
          refine x_iload_n C 2 dX6_move_66 rfl ?_
          obtain ⟨v67, hg67, h⟩ := ob h
          refine x_ci0 (x_runV C (As := [.int x3, .int x2]) (rest := [.ref (ad 0)]) (c_X6_isWithin hg67) (cw_X6_move_X6_isWithin_106 C) 0 rfl rfl rfl (Nat.le_of_ble_eq_true rfl) dX6_move_67 ⟨Nat.zero_le _, Nat.zero_le _⟩) ?_
          refine x_if_ne C (t := 84) dX6_move_70 (by decide) (fun c70 => ?_) (fun c70 => ?_)
          · replace h := (if_neg c70).symm.trans h
            refine x_locals (lv' := [(0, .ref (ad 0)), (1, .int x1), (2, .int x2), (3, .int x3), (4, .int x4)]) [0, 1, 2, 3, 4] rfl ?_
            exact X_X6_move_b84 C h
          · replace h := (if_pos c70).symm.trans h
            refine x_aload_n C 0 dX6_move_73 rfl ?_
            refine x_iload_n C 3 dX6_move_74 rfl ?_
            refine x_iload C 4 dX6_move_75 rfl ?_
            refine x_iload_n C 2 dX6_move_77 rfl ?_
            obtain ⟨v78, hg78, h⟩ := ob h
            refine x_ci0 (x_runV C (As := [.int x3, .int x4, .int x2]) (rest := [.ref (ad 0)]) (c_X6_finds hg78) (cw_X6_move_X6_finds_95 C) 0 rfl rfl rfl (Nat.le_of_ble_eq_true rfl) dX6_move_78 ⟨Nat.zero_le _, Nat.zero_le _⟩) ?_
            refine x_if_lt C (t := 88) dX6_move_81 (by decide) (fun c81 => ?_) (fun c81 => ?_)
            · replace h := (if_pos c81).symm.trans h
              refine x_iconst C (v := 0) dX6_move_88 (by decide) ?_
              refine x_locals (lv' := [(0, .ref (ad 0)), (1, .int x1), (2, .int x2), (3, .int x3), (4, .int x4)]) [0, 1, 2, 3, 4] rfl ?_
              exact X_X6_move_b89 C h
            · replace h := (if_neg c81).symm.trans h
              refine x_locals (lv' := [(0, .ref (ad 0)), (1, .int x1), (2, .int x2), (3, .int x3), (4, .int x4)]) [0, 1, 2, 3, 4] rfl ?_
              exact X_X6_move_b84 C h
    · replace h := (if_pos c43).symm.trans h
      refine x_iconst C (v := 2) dX6_move_46 (by decide) ?_
      refine x_goto C (t := 89) dX6_move_47 (by decide) ?_
      refine x_locals (lv' := [(0, .ref (ad 0)), (1, .int x1), (2, .int x2), (3, .int x3), (4, .int x4)]) [0, 1, 2, 3, 4] rfl ?_
      exact X_X6_move_b89 C h
  · replace h := (if_pos c28).symm.trans h
    refine x_iconst C (v := 1) dX6_move_31 (by decide) ?_
    refine x_goto C (t := 89) dX6_move_32 (by decide) ?_
    refine x_locals (lv' := [(0, .ref (ad 0)), (1, .int x1), (2, .int x2), (3, .int x3), (4, .int x4)]) [0, 1, 2, 3, 4] rfl ?_
    exact X_X6_move_b89 C h
def X6_move_b22 (S : St) (x1 x2 x3 x4 : Int32) : Option (Int32 × St) :=
  X6_move_b23 S x1 x2 x3 x4 0
set_option maxHeartbeats 4000000 in
set_option maxRecDepth 100000 in
theorem X_X6_move_b22 {p : Program} {l : Launch} {e : Env} {s : State} {m : MethodId} {args : Array Value} {below : List Frame} {meth : Method} {c : Code} {D : va_G} {cI cZ cJ : ClassId} {ad : Nat → Nat} {rest w0 : va_W} (C : XC p rm_X6_move s m args meth c cX6_move 7 (some .int) RX6 wsX6_move D (t3 cI cZ cJ)) {S : St} {x1 x2 x3 x4 : Int32} {r : Int32 × St} (h : X6_move_b22 S x1 x2 x3 x4 = some r) : XW p l e rm_X6_move s m args below meth c D w0 7 (MQ below (QI D (t3 cI cZ cJ) w0 (wM cI cZ ad r.2 rest) s.heap.size r.1) args s 0 0 (va_A w0 s.heap.size)) (wM cI cZ ad S rest) 0 0 22 [(0, .ref (ad 0)), (1, .int x1), (2, .int x2), (3, .int x3), (4, .int x4)] [] := by
  unfold X6_move_b22 at h
  refine x_iconst C (v := 0) dX6_move_22 (by decide) ?_
  exact X_X6_move_b23 C h
def X6_move_b15 (S : St) (x1 x2 x3 x4 s0 : Int32) : Option (Int32 × St) :=
  if s0 = 0 then (X6_move_b22 S x1 x2 x3 x4) else (X6_move_b23 S x1 x2 x3 x4 1)
set_option maxHeartbeats 4000000 in
set_option maxRecDepth 100000 in
theorem X_X6_move_b15 {p : Program} {l : Launch} {e : Env} {s : State} {m : MethodId} {args : Array Value} {below : List Frame} {meth : Method} {c : Code} {D : va_G} {cI cZ cJ : ClassId} {ad : Nat → Nat} {rest w0 : va_W} (C : XC p rm_X6_move s m args meth c cX6_move 7 (some .int) RX6 wsX6_move D (t3 cI cZ cJ)) {S : St} {x1 x2 x3 x4 s0 : Int32} {r : Int32 × St} (h : X6_move_b15 S x1 x2 x3 x4 s0 = some r) : XW p l e rm_X6_move s m args below meth c D w0 7 (MQ below (QI D (t3 cI cZ cJ) w0 (wM cI cZ ad r.2 rest) s.heap.size r.1) args s 0 0 (va_A w0 s.heap.size)) (wM cI cZ ad S rest) 0 0 15 [(0, .ref (ad 0)), (1, .int x1), (2, .int x2), (3, .int x3), (4, .int x4)] [.int s0] := by
  unfold X6_move_b15 at h
  refine x_if_eq C (t := 22) dX6_move_15 (by decide) (fun c15 => ?_) (fun c15 => ?_)
  · replace h := (if_pos c15).symm.trans h
    exact X_X6_move_b22 C h
  · replace h := (if_neg c15).symm.trans h
    refine x_iconst C (v := 1) dX6_move_18 (by decide) ?_
    refine x_goto C (t := 23) dX6_move_19 (by decide) ?_
    exact X_X6_move_b23 C h
def X6_move_b6 (S : St) (x1 x2 x3 x4 s0 : Int32) : Option (Int32 × St) :=
  if s0 = 0 then (X6_move_b22 S x1 x2 x3 x4) else ((X6_isHere S x1 x2).bind fun q12 => X6_move_b15 q12.2 x1 x2 x3 x4 q12.1)
set_option maxHeartbeats 4000000 in
set_option maxRecDepth 100000 in
theorem X_X6_move_b6 {p : Program} {l : Launch} {e : Env} {s : State} {m : MethodId} {args : Array Value} {below : List Frame} {meth : Method} {c : Code} {D : va_G} {cI cZ cJ : ClassId} {ad : Nat → Nat} {rest w0 : va_W} (C : XC p rm_X6_move s m args meth c cX6_move 7 (some .int) RX6 wsX6_move D (t3 cI cZ cJ)) {S : St} {x1 x2 x3 x4 s0 : Int32} {r : Int32 × St} (h : X6_move_b6 S x1 x2 x3 x4 s0 = some r) : XW p l e rm_X6_move s m args below meth c D w0 7 (MQ below (QI D (t3 cI cZ cJ) w0 (wM cI cZ ad r.2 rest) s.heap.size r.1) args s 0 0 (va_A w0 s.heap.size)) (wM cI cZ ad S rest) 0 0 6 [(0, .ref (ad 0)), (1, .int x1), (2, .int x2), (3, .int x3), (4, .int x4)] [.int s0] := by
  unfold X6_move_b6 at h
  refine x_if_eq C (t := 22) dX6_move_6 (by decide) (fun c6 => ?_) (fun c6 => ?_)
  · replace h := (if_pos c6).symm.trans h
    exact X_X6_move_b22 C h
  · replace h := (if_neg c6).symm.trans h
    refine x_aload_n C 0 dX6_move_9 rfl ?_
    refine x_iload_n C 1 dX6_move_10 rfl ?_
    refine x_iload_n C 2 dX6_move_11 rfl ?_
    obtain ⟨⟨v12, S12⟩, hg12, h⟩ := ob h
    refine x_ci0 (x_runV C (As := [.int x1, .int x2]) (rest := []) (c_X6_isHere hg12) (cw_X6_move_X6_isHere_127 C) 0 rfl rfl rfl (Nat.le_of_ble_eq_true rfl) dX6_move_12 ⟨Nat.zero_le _, Nat.zero_le _⟩) ?_
    exact X_X6_move_b15 C h
def X6_move (S : St) (x1 x2 x3 x4 : Int32) : Option (Int32 × St) :=
  (X6_isHere S x1 x3).bind fun q3 => X6_move_b6 q3.2 x1 x2 x3 x4 q3.1
set_option maxHeartbeats 4000000 in
set_option maxRecDepth 100000 in
theorem X_X6_move {p : Program} {l : Launch} {e : Env} {s : State} {m : MethodId} {args : Array Value} {below : List Frame} {meth : Method} {c : Code} {D : va_G} {cI cZ cJ : ClassId} {ad : Nat → Nat} {rest w0 : va_W} (C : XC p rm_X6_move s m args meth c cX6_move 7 (some .int) RX6 wsX6_move D (t3 cI cZ cJ)) {S : St} {x1 x2 x3 x4 : Int32} {r : Int32 × St} (h : X6_move S x1 x2 x3 x4 = some r) : XW p l e rm_X6_move s m args below meth c D w0 7 (MQ below (QI D (t3 cI cZ cJ) w0 (wM cI cZ ad r.2 rest) s.heap.size r.1) args s 0 0 (va_A w0 s.heap.size)) (wM cI cZ ad S rest) 0 0 0 [(0, .ref (ad 0)), (1, .int x1), (2, .int x2), (3, .int x3), (4, .int x4)] [] := by
  unfold X6_move at h
  refine x_aload_n C 0 dX6_move_0 rfl ?_
  refine x_iload_n C 1 dX6_move_1 rfl ?_
  refine x_iload_n C 3 dX6_move_2 rfl ?_
  obtain ⟨⟨v3, S3⟩, hg3, h⟩ := ob h
  refine x_ci0 (x_runV C (As := [.int x1, .int x3]) (rest := []) (c_X6_isHere hg3) (cw_X6_move_X6_isHere_127 C) 0 rfl rfl rfl (Nat.le_of_ble_eq_true rfl) dX6_move_3 ⟨Nat.zero_le _, Nat.zero_le _⟩) ?_
  exact X_X6_move_b6 C h
set_option maxRecDepth 100000 in
theorem c_X6_move {l : Launch} {D : va_G} {cI cZ cJ : ClassId} {ad : Nat → Nat} {S : St} {rest : va_W} {x1 x2 x3 x4 : Int32} {r : Int32 × St} (h : X6_move S x1 x2 x3 x4 = some r) : ∀ sz, Met l yX6_move wsX6_move rm_X6_move (PC D (t3 cI cZ cJ) [.ref (ad 0), .int x1, .int x2, .int x3, .int x4] (wM cI cZ ad S rest) sz) (QI D (t3 cI cZ cJ) (wM cI cZ ad S rest) (wM cI cZ ad r.2 rest) sz r.1) 0 0 (va_A (wM cI cZ ad S rest) sz) := by
  refine x_met (Qc := fun sz => QI D (t3 cI cZ cJ) (wM cI cZ ad S rest) (wM cI cZ ad r.2 rest) sz r.1) RX6 rfl (by decide) rfl (Nat.le_of_ble_eq_true rfl) (fun p e s m args below meth c C => ?_)
  exact X_X6_move C h
/-! EntryMastersModel.count(I)I -/
abbrev rm_X6_count : Room := { frames := 0, cells := 0, slots := 0, locals := 0 }
theorem hi_X6_count_6 : ∀ z ∈ u_ws RX6 TX6 26, z ∈ wsX6_count := by decide +kernel
theorem lk_X6_count_62 : Cond.fieldLink RX6 62 RX6 "there" "[Z" ∈ wsX6_count := by decide +kernel
theorem lk_X6_count_65 : Cond.fieldLink RX6 65 RX6 "parent" "[I" ∈ wsX6_count := by decide +kernel
def X6_count_b47 (S : St) (x2 : Int32) : Option (Int32) :=
  some x2
set_option maxHeartbeats 4000000 in
set_option maxRecDepth 100000 in
theorem X_X6_count_b47 {p : Program} {l : Launch} {e : Env} {s : State} {m : MethodId} {args : Array Value} {below : List Frame} {meth : Method} {c : Code} {D : va_G} {cI cZ cJ : ClassId} {ad : Nat → Nat} {rest w0 : va_W} (C : XC p rm_X6_count s m args meth c cX6_count 4 (some .int) RX6 wsX6_count D (t3 cI cZ cJ)) {S : St} {x2 : Int32} {r : Int32} (h : X6_count_b47 S x2 = some r) : XW p l e rm_X6_count s m args below meth c D w0 4 (MQ below (QI D (t3 cI cZ cJ) w0 (wM cI cZ ad S rest) s.heap.size r) args s 0 0 (va_A w0 s.heap.size)) (wM cI cZ ad S rest) 0 0 47 [(2, .int x2)] [] := by
  unfold X6_count_b47 at h
  refine x_iload_n C 0 dX6_count_47 rfl ?_
  obtain rfl := Option.some.inj h
  exact x_iret C dX6_count_48
def X6_count_b39 (S : St) (x1 x3 s0 s1 : Int32) : Option ((Int32 × Int32 × Int32) ⊕ (Int32)) :=
  some (.inl (x1, s1 + s0, x3 + 1))
set_option maxHeartbeats 4000000 in
set_option maxRecDepth 100000 in
theorem X_X6_count_b39 {p : Program} {l : Launch} {e : Env} {s : State} {m : MethodId} {args : Array Value} {below : List Frame} {meth : Method} {c : Code} {D : va_G} {cI cZ cJ : ClassId} {ad : Nat → Nat} {rest w0 : va_W} (C : XC p rm_X6_count s m args meth c cX6_count 4 (some .int) RX6 wsX6_count D (t3 cI cZ cJ)) {S : St} {x1 x3 s0 s1 : Int32} {z : (Int32 × Int32 × Int32) ⊕ (Int32)} {r : Int32} (h : X6_count_b39 S x1 x3 s0 s1 = some z) (hk : ∀ a' : (Int32 × Int32 × Int32), z = .inl a' → XW p l e rm_X6_count s m args below meth c D w0 4 (MQ below (QI D (t3 cI cZ cJ) w0 (wM cI cZ ad S rest) s.heap.size r) args s 0 0 (va_A w0 s.heap.size)) (wM cI cZ ad S rest) 0 0 4 [(0, .ref (ad 0)), (1, .int a'.1), (2, .int a'.2.1), (3, .int a'.2.2)] []) (hr : ∀ r', z = .inr r' → r' = r) : XW p l e rm_X6_count s m args below meth c D w0 4 (MQ below (QI D (t3 cI cZ cJ) w0 (wM cI cZ ad S rest) s.heap.size r) args s 0 0 (va_A w0 s.heap.size)) (wM cI cZ ad S rest) 0 0 39 [(0, .ref (ad 0)), (1, .int x1), (3, .int x3)] [.int s0, .int s1] := by
  unfold X6_count_b39 at h
  refine x_iadd C dX6_count_39 ?_
  refine x_istore_n C (lv' := [(0, .ref (ad 0)), (1, .int x1), (2, .int (s1 + s0)), (3, .int x3)]) dX6_count_40 (by decide) rfl ?_
  refine x_iinc C (v := x3 + 1) (lv' := [(0, .ref (ad 0)), (1, .int x1), (2, .int (s1 + s0)), (3, .int (x3 + 1))]) 3 dX6_count_41 rfl rfl (by decide) rfl ?_
  refine x_goto C (t := 4) dX6_count_44 (by decide) ?_
  exact hk _ (Option.some.inj h).symm
def X6_count_b38 (S : St) (x1 x3 s0 : Int32) : Option ((Int32 × Int32 × Int32) ⊕ (Int32)) :=
  X6_count_b39 S x1 x3 0 s0
set_option maxHeartbeats 4000000 in
set_option maxRecDepth 100000 in
theorem X_X6_count_b38 {p : Program} {l : Launch} {e : Env} {s : State} {m : MethodId} {args : Array Value} {below : List Frame} {meth : Method} {c : Code} {D : va_G} {cI cZ cJ : ClassId} {ad : Nat → Nat} {rest w0 : va_W} (C : XC p rm_X6_count s m args meth c cX6_count 4 (some .int) RX6 wsX6_count D (t3 cI cZ cJ)) {S : St} {x1 x3 s0 : Int32} {z : (Int32 × Int32 × Int32) ⊕ (Int32)} {r : Int32} (h : X6_count_b38 S x1 x3 s0 = some z) (hk : ∀ a' : (Int32 × Int32 × Int32), z = .inl a' → XW p l e rm_X6_count s m args below meth c D w0 4 (MQ below (QI D (t3 cI cZ cJ) w0 (wM cI cZ ad S rest) s.heap.size r) args s 0 0 (va_A w0 s.heap.size)) (wM cI cZ ad S rest) 0 0 4 [(0, .ref (ad 0)), (1, .int a'.1), (2, .int a'.2.1), (3, .int a'.2.2)] []) (hr : ∀ r', z = .inr r' → r' = r) : XW p l e rm_X6_count s m args below meth c D w0 4 (MQ below (QI D (t3 cI cZ cJ) w0 (wM cI cZ ad S rest) s.heap.size r) args s 0 0 (va_A w0 s.heap.size)) (wM cI cZ ad S rest) 0 0 38 [(0, .ref (ad 0)), (1, .int x1), (3, .int x3)] [.int s0] := by
  unfold X6_count_b38 at h
  refine x_iconst C (v := 0) dX6_count_38 (by decide) ?_
  exact X_X6_count_b39 C h hk hr
def X6_count_b34 (S : St) (x1 x3 s0 : Int32) : Option ((Int32 × Int32 × Int32) ⊕ (Int32)) :=
  X6_count_b39 S x1 x3 1 s0
set_option maxHeartbeats 4000000 in
set_option maxRecDepth 100000 in
theorem X_X6_count_b34 {p : Program} {l : Launch} {e : Env} {s : State} {m : MethodId} {args : Array Value} {below : List Frame} {meth : Method} {c : Code} {D : va_G} {cI cZ cJ : ClassId} {ad : Nat → Nat} {rest w0 : va_W} (C : XC p rm_X6_count s m args meth c cX6_count 4 (some .int) RX6 wsX6_count D (t3 cI cZ cJ)) {S : St} {x1 x3 s0 : Int32} {z : (Int32 × Int32 × Int32) ⊕ (Int32)} {r : Int32} (h : X6_count_b34 S x1 x3 s0 = some z) (hk : ∀ a' : (Int32 × Int32 × Int32), z = .inl a' → XW p l e rm_X6_count s m args below meth c D w0 4 (MQ below (QI D (t3 cI cZ cJ) w0 (wM cI cZ ad S rest) s.heap.size r) args s 0 0 (va_A w0 s.heap.size)) (wM cI cZ ad S rest) 0 0 4 [(0, .ref (ad 0)), (1, .int a'.1), (2, .int a'.2.1), (3, .int a'.2.2)] []) (hr : ∀ r', z = .inr r' → r' = r) : XW p l e rm_X6_count s m args below meth c D w0 4 (MQ below (QI D (t3 cI cZ cJ) w0 (wM cI cZ ad S rest) s.heap.size r) args s 0 0 (va_A w0 s.heap.size)) (wM cI cZ ad S rest) 0 0 34 [(0, .ref (ad 0)), (1, .int x1), (3, .int x3)] [.int s0] := by
  unfold X6_count_b34 at h
  refine x_iconst C (v := 1) dX6_count_34 (by decide) ?_
  refine x_goto C (t := 39) dX6_count_35 (by decide) ?_
  exact X_X6_count_b39 C h hk hr
def X6_count_H4 (S : St) (x1 x2 x3 : Int32) : Option ((Int32 × Int32 × Int32) ⊕ (Int32)) :=
  if 42 ≤ x3 then (exI (X6_count_b47 S x2)) else (if inB x3 42 then (if (S 18 x3.toNatClampNeg) = 0 then (X6_count_b38 S x1 x3 x2) else (if x1 < 0 then (X6_count_b34 S x1 x3 x2) else (if inB x3 42 then (if (S 19 x3.toNatClampNeg) = x1 then (X6_count_b34 S x1 x3 x2) else (X6_count_b38 S x1 x3 x2)) else none))) else none)
set_option maxHeartbeats 4000000 in
set_option maxRecDepth 100000 in
theorem X_X6_count_H4 {p : Program} {l : Launch} {e : Env} {s : State} {m : MethodId} {args : Array Value} {below : List Frame} {meth : Method} {c : Code} {D : va_G} {cI cZ cJ : ClassId} {ad : Nat → Nat} {rest w0 : va_W} (C : XC p rm_X6_count s m args meth c cX6_count 4 (some .int) RX6 wsX6_count D (t3 cI cZ cJ)) {S : St} {x1 x2 x3 : Int32} {z : (Int32 × Int32 × Int32) ⊕ (Int32)} {r : Int32} (h : X6_count_H4 S x1 x2 x3 = some z) (hk : ∀ a' : (Int32 × Int32 × Int32), z = .inl a' → XW p l e rm_X6_count s m args below meth c D w0 4 (MQ below (QI D (t3 cI cZ cJ) w0 (wM cI cZ ad S rest) s.heap.size r) args s 0 0 (va_A w0 s.heap.size)) (wM cI cZ ad S rest) 0 0 4 [(0, .ref (ad 0)), (1, .int a'.1), (2, .int a'.2.1), (3, .int a'.2.2)] []) (hr : ∀ r', z = .inr r' → r' = r) : XW p l e rm_X6_count s m args below meth c D w0 4 (MQ below (QI D (t3 cI cZ cJ) w0 (wM cI cZ ad S rest) s.heap.size r) args s 0 0 (va_A w0 s.heap.size)) (wM cI cZ ad S rest) 0 0 4 [(0, .ref (ad 0)), (1, .int x1), (2, .int x2), (3, .int x3)] [] := by
  unfold X6_count_H4 at h
  refine x_iload_n C 3 dX6_count_4 rfl ?_
  refine x_bipush C (v := 42) dX6_count_5 (by decide) ?_
  refine x_icmp_ge C (t := 47) dX6_count_7 (by decide) (fun c7 => ?_) (fun c7 => ?_)
  · replace h := (if_pos c7).symm.trans h
    refine x_locals (lv' := [(2, .int x2)]) [2] rfl ?_
    obtain ⟨r1, h1, h2⟩ := exI_some h
    obtain rfl := hr r1 h2
    exact X_X6_count_b47 C h1
  · replace h := (if_neg c7).symm.trans h
    refine x_iload_n C 2 dX6_count_10 rfl ?_
    refine x_aload_n C 0 dX6_count_11 rfl ?_
    refine x_get C (R' := RX6) (T := TX6) (N := 26) (ci := 6) 0 19 rfl rfl (by decide) rfl rfl hi_X6_count_6 lk_X6_count_62 dX6_count_12 ?_
    refine x_iload_n C 3 dX6_count_15 rfl ?_
    obtain ⟨g16, h⟩ := gdB h
    refine x_zald C 18 rfl g16 dX6_count_16 ?_
    refine x_if_eq C (t := 38) dX6_count_17 (by decide) (fun c17 => ?_) (fun c17 => ?_)
    · replace h := (if_pos c17).symm.trans h
      refine x_locals (lv' := [(0, .ref (ad 0)), (1, .int x1), (3, .int x3)]) [0, 1, 3] rfl ?_
      exact X_X6_count_b38 C h hk hr
    · replace h := (if_neg c17).symm.trans h
      refine x_iload_n C 1 dX6_count_20 rfl ?_
      refine x_if_lt C (t := 34) dX6_count_21 (by decide) (fun c21 => ?_) (fun c21 => ?_)
      · replace h := (if_pos c21).symm.trans h
        refine x_locals (lv' := [(0, .ref (ad 0)), (1, .int x1), (3, .int x3)]) [0, 1, 3] rfl ?_
        exact X_X6_count_b34 C h hk hr
      · replace h := (if_neg c21).symm.trans h
        refine x_aload_n C 0 dX6_count_24 rfl ?_
        refine x_get C (R' := RX6) (T := TX6) (N := 26) (ci := 6) 0 20 rfl rfl (by decide) rfl rfl hi_X6_count_6 lk_X6_count_65 dX6_count_25 ?_
        refine x_iload_n C 3 dX6_count_28 rfl ?_
        obtain ⟨g29, h⟩ := gdB h
        refine x_iald C 19 rfl g29 dX6_count_29 ?_
        refine x_iload_n C 1 dX6_count_30 rfl ?_
        refine x_icmp_ne C (t := 38) dX6_count_31 (by decide) (fun c31 => ?_) (fun c31 => ?_)
        · replace h := (if_neg c31).symm.trans h
          refine x_locals (lv' := [(0, .ref (ad 0)), (1, .int x1), (3, .int x3)]) [0, 1, 3] rfl ?_
          exact X_X6_count_b38 C h hk hr
        · replace h := (if_pos c31).symm.trans h
          refine x_locals (lv' := [(0, .ref (ad 0)), (1, .int x1), (3, .int x3)]) [0, 1, 3] rfl ?_
          exact X_X6_count_b34 C h hk hr
def X6_count_L4 (S : St) (x1 x2 x3 : Int32) : Option (Int32) := wloop (fun a' : (Int32 × Int32 × Int32) => X6_count_H4 S a'.1 a'.2.1 a'.2.2) 1000 (x1, x2, x3)
set_option maxHeartbeats 4000000 in
set_option maxRecDepth 100000 in
theorem X_X6_count_L4 {p : Program} {l : Launch} {e : Env} {s : State} {m : MethodId} {args : Array Value} {below : List Frame} {meth : Method} {c : Code} {D : va_G} {cI cZ cJ : ClassId} {ad : Nat → Nat} {rest w0 : va_W} (C : XC p rm_X6_count s m args meth c cX6_count 4 (some .int) RX6 wsX6_count D (t3 cI cZ cJ)) {S : St} {x1 x2 x3 : Int32} {r : Int32} (h : X6_count_L4 S x1 x2 x3 = some r) : XW p l e rm_X6_count s m args below meth c D w0 4 (MQ below (QI D (t3 cI cZ cJ) w0 (wM cI cZ ad S rest) s.heap.size r) args s 0 0 (va_A w0 s.heap.size)) (wM cI cZ ad S rest) 0 0 4 [(0, .ref (ad 0)), (1, .int x1), (2, .int x2), (3, .int x3)] [] :=
  wloop_met (P := (fun a' : (Int32 × Int32 × Int32) => XW p l e rm_X6_count s m args below meth c D w0 4 (MQ below (QI D (t3 cI cZ cJ) w0 (wM cI cZ ad S rest) s.heap.size r) args s 0 0 (va_A w0 s.heap.size)) (wM cI cZ ad S rest) 0 0 4 [(0, .ref (ad 0)), (1, .int a'.1), (2, .int a'.2.1), (3, .int a'.2.2)] [])) (fun _ _ hz hk hr => X_X6_count_H4 C hz hk hr) 1000 (x1, x2, x3) h
def X6_count (S : St) (x1 : Int32) : Option (Int32) :=
  X6_count_L4 S x1 0 0
set_option maxHeartbeats 4000000 in
set_option maxRecDepth 100000 in
theorem X_X6_count {p : Program} {l : Launch} {e : Env} {s : State} {m : MethodId} {args : Array Value} {below : List Frame} {meth : Method} {c : Code} {D : va_G} {cI cZ cJ : ClassId} {ad : Nat → Nat} {rest w0 : va_W} (C : XC p rm_X6_count s m args meth c cX6_count 4 (some .int) RX6 wsX6_count D (t3 cI cZ cJ)) {S : St} {x1 : Int32} {r : Int32} (h : X6_count S x1 = some r) : XW p l e rm_X6_count s m args below meth c D w0 4 (MQ below (QI D (t3 cI cZ cJ) w0 (wM cI cZ ad S rest) s.heap.size r) args s 0 0 (va_A w0 s.heap.size)) (wM cI cZ ad S rest) 0 0 0 [(0, .ref (ad 0)), (1, .int x1)] [] := by
  unfold X6_count at h
  refine x_iconst C (v := 0) dX6_count_0 (by decide) ?_
  refine x_istore_n C (lv' := [(0, .ref (ad 0)), (1, .int x1), (2, .int 0)]) dX6_count_1 (by decide) rfl ?_
  refine x_iconst C (v := 0) dX6_count_2 (by decide) ?_
  refine x_istore_n C (lv' := [(0, .ref (ad 0)), (1, .int x1), (2, .int 0), (3, .int 0)]) dX6_count_3 (by decide) rfl ?_
  exact X_X6_count_L4 C h
set_option maxRecDepth 100000 in
theorem c_X6_count {l : Launch} {D : va_G} {cI cZ cJ : ClassId} {ad : Nat → Nat} {S : St} {rest : va_W} {x1 : Int32} {r : Int32} (h : X6_count S x1 = some r) : ∀ sz, Met l yX6_count wsX6_count rm_X6_count (PC D (t3 cI cZ cJ) [.ref (ad 0), .int x1] (wM cI cZ ad S rest) sz) (QI D (t3 cI cZ cJ) (wM cI cZ ad S rest) (wM cI cZ ad S rest) sz r) 0 0 (va_A (wM cI cZ ad S rest) sz) := by
  refine x_met (Qc := fun sz => QI D (t3 cI cZ cJ) (wM cI cZ ad S rest) (wM cI cZ ad S rest) sz r) RX6 rfl (by decide) rfl (Nat.le_of_ble_eq_true rfl) (fun p e s m args below meth c C => ?_)
  exact X_X6_count C h
/-! EntryMastersModel.delete(II)I -/
abbrev rm_X6_delete : Room := { frames := 6, cells := 0, slots := 0, locals := 136 }
theorem hi_X6_delete_6 : ∀ z ∈ u_ws RX6 TX6 26, z ∈ wsX6_delete := by decide +kernel
theorem lk_X6_delete_80 : Cond.fieldLink RX6 80 RX6 "thrown" "I" ∈ wsX6_delete := by decide +kernel
theorem lk_X6_delete_88 : Cond.fieldLink RX6 88 RX6 "changes" "I" ∈ wsX6_delete := by decide +kernel
theorem cw_X6_delete_X6_count_133 {p : Program} {s : State} {m : MethodId} {args : Array Value} {meth : Method} {c : Code} {D : va_G} {tys : List (ClassId × FieldType)} {R : Room} (C : XC p R s m args meth c cX6_delete 3 (some .int) RX6 wsX6_delete D tys) : CallW rm_X6_delete s args RX6 RX6 133 yX6_count cX6_count 4 (some .int) wsX6_count rm_X6_count 0 0 1 := cwV 1 C.2.2.2.2.1 gX6_delete_X6_count rfl rfl rfl (by decide +kernel) ⟨Nat.le_of_ble_eq_true rfl, Nat.le_of_ble_eq_true rfl⟩
theorem cw_X6_delete_X6_isHere_127 {p : Program} {s : State} {m : MethodId} {args : Array Value} {meth : Method} {c : Code} {D : va_G} {tys : List (ClassId × FieldType)} {R : Room} (C : XC p R s m args meth c cX6_delete 3 (some .int) RX6 wsX6_delete D tys) : CallW rm_X6_delete s args RX6 RX6 127 yX6_isHere cX6_isHere 3 (some .boolean) wsX6_isHere rm_X6_isHere 0 0 2 := cwV 2 C.2.2.2.2.1 gX6_delete_X6_isHere rfl rfl rfl (by decide +kernel) ⟨Nat.le_of_ble_eq_true rfl, Nat.le_of_ble_eq_true rfl⟩
theorem cw_X6_delete_X6_made_130 {p : Program} {s : State} {m : MethodId} {args : Array Value} {meth : Method} {c : Code} {D : va_G} {tys : List (ClassId × FieldType)} {R : Room} (C : XC p R s m args meth c cX6_delete 3 (some .int) RX6 wsX6_delete D tys) : CallW rm_X6_delete s args RX6 RX6 130 yX6_made cX6_made 6 (some .int) wsX6_made rm_X6_made 0 0 3 := cwV 3 C.2.2.2.2.1 gX6_delete_X6_made rfl rfl rfl (by decide +kernel) ⟨Nat.le_of_ble_eq_true rfl, Nat.le_of_ble_eq_true rfl⟩
def X6_delete_b60 (S : St) (s0 : Int32) : Option (Int32 × St) :=
  (X6_count S (-1)).bind fun v63 => some (v63 - 1, S)
set_option maxHeartbeats 4000000 in
set_option maxRecDepth 100000 in
theorem X_X6_delete_b60 {p : Program} {l : Launch} {e : Env} {s : State} {m : MethodId} {args : Array Value} {below : List Frame} {meth : Method} {c : Code} {D : va_G} {cI cZ cJ : ClassId} {ad : Nat → Nat} {rest w0 : va_W} (C : XC p rm_X6_delete s m args meth c cX6_delete 3 (some .int) RX6 wsX6_delete D (t3 cI cZ cJ)) {S : St} {s0 : Int32} {r : Int32 × St} (h : X6_delete_b60 S s0 = some r) : XW p l e rm_X6_delete s m args below meth c D w0 3 (MQ below (QI D (t3 cI cZ cJ) w0 (wM cI cZ ad r.2 rest) s.heap.size r.1) args s 0 0 (va_A w0 s.heap.size)) (wM cI cZ ad S rest) 0 0 60 [(0, .ref (ad 0))] [.int s0] := by
  unfold X6_delete_b60 at h
  refine x_pop C dX6_delete_60 rfl ?_
  refine x_aload_n C 0 dX6_delete_61 rfl ?_
  refine x_iconst C (v := (-1)) dX6_delete_62 (by decide) ?_
  obtain ⟨v63, hg63, h⟩ := ob h
  refine x_ci0 (x_runV C (As := [.int (-1)]) (rest := []) (c_X6_count hg63) (cw_X6_delete_X6_count_133 C) 0 rfl rfl rfl (Nat.le_of_ble_eq_true rfl) dX6_delete_63 ⟨Nat.zero_le _, Nat.zero_le _⟩) ?_
  refine x_iconst C (v := 1) dX6_delete_66 (by decide) ?_
  refine x_isub C dX6_delete_67 ?_
  obtain rfl := Option.some.inj h
  exact x_iret C dX6_delete_68
def X6_delete_b44 (S : St) (x1 x2 : Int32) : Option (Int32 × St) :=
  if (S 0 25) ≤ 0 then ((X6_made S x1 3 x2).bind fun q57 => X6_delete_b60 q57.2 q57.1) else (some (0, S))
set_option maxHeartbeats 4000000 in
set_option maxRecDepth 100000 in
theorem X_X6_delete_b44 {p : Program} {l : Launch} {e : Env} {s : State} {m : MethodId} {args : Array Value} {below : List Frame} {meth : Method} {c : Code} {D : va_G} {cI cZ cJ : ClassId} {ad : Nat → Nat} {rest w0 : va_W} (C : XC p rm_X6_delete s m args meth c cX6_delete 3 (some .int) RX6 wsX6_delete D (t3 cI cZ cJ)) {S : St} {x1 x2 : Int32} {r : Int32 × St} (h : X6_delete_b44 S x1 x2 = some r) : XW p l e rm_X6_delete s m args below meth c D w0 3 (MQ below (QI D (t3 cI cZ cJ) w0 (wM cI cZ ad r.2 rest) s.heap.size r.1) args s 0 0 (va_A w0 s.heap.size)) (wM cI cZ ad S rest) 0 0 44 [(0, .ref (ad 0)), (1, .int x1), (2, .int x2)] [] := by
  unfold X6_delete_b44 at h
  refine x_aload_n C 0 dX6_delete_44 rfl ?_
  refine x_get C (R' := RX6) (T := TX6) (N := 26) (ci := 6) 0 25 rfl rfl (by decide) rfl rfl hi_X6_delete_6 lk_X6_delete_80 dX6_delete_45 ?_
  refine x_if_le C (t := 53) dX6_delete_48 (by decide) (fun c48 => ?_) (fun c48 => ?_)
  · replace h := (if_pos c48).symm.trans h
    refine x_aload_n C 0 dX6_delete_53 rfl ?_
    refine x_iload_n C 1 dX6_delete_54 rfl ?_
    refine x_iconst C (v := 3) dX6_delete_55 (by decide) ?_
    refine x_iload_n C 2 dX6_delete_56 rfl ?_
    obtain ⟨⟨v57, S57⟩, hg57, h⟩ := ob h
    refine x_ci0 (x_runV C (As := [.int x1, .int 3, .int x2]) (rest := []) (c_X6_made hg57) (cw_X6_delete_X6_made_130 C) 0 rfl rfl rfl (Nat.le_of_ble_eq_true rfl) dX6_delete_57 ⟨Nat.zero_le _, Nat.zero_le _⟩) ?_
    refine x_locals (lv' := [(0, .ref (ad 0))]) [0] rfl ?_
    exact X_X6_delete_b60 C h
  · replace h := (if_neg c48).symm.trans h
    refine x_iconst C (v := 0) dX6_delete_51 (by decide) ?_
    obtain rfl := Option.some.inj h
    exact x_iret C dX6_delete_52
def X6_delete_b41 (S : St) (x1 x2 s0 : Int32) : Option (Int32 × St) :=
  X6_delete_b44 (up S 0 (upd (S 0) 25 s0)) x1 x2
set_option maxHeartbeats 4000000 in
set_option maxRecDepth 100000 in
theorem X_X6_delete_b41 {p : Program} {l : Launch} {e : Env} {s : State} {m : MethodId} {args : Array Value} {below : List Frame} {meth : Method} {c : Code} {D : va_G} {cI cZ cJ : ClassId} {ad : Nat → Nat} {rest w0 : va_W} (C : XC p rm_X6_delete s m args meth c cX6_delete 3 (some .int) RX6 wsX6_delete D (t3 cI cZ cJ)) {S : St} {x1 x2 s0 : Int32} {r : Int32 × St} (h : X6_delete_b41 S x1 x2 s0 = some r) : XW p l e rm_X6_delete s m args below meth c D w0 3 (MQ below (QI D (t3 cI cZ cJ) w0 (wM cI cZ ad r.2 rest) s.heap.size r.1) args s 0 0 (va_A w0 s.heap.size)) (wM cI cZ ad S rest) 0 0 41 [(0, .ref (ad 0)), (1, .int x1), (2, .int x2)] [.int s0, .ref (ad 0)] := by
  unfold X6_delete_b41 at h
  refine x_put C (R' := RX6) (T := TX6) (N := 26) (ci := 6) tyX6 tyX6_ok nmX6 0 25 rfl rfl (by decide) rfl rfl (lt_ble rfl) rfl hi_X6_delete_6 lk_X6_delete_80 dX6_delete_41 (wM_f0_25 cI cZ ad S rest s0) ?_
  exact X_X6_delete_b44 C h
def X6_delete_b36 (S : St) (x1 x2 : Int32) : Option (Int32 × St) :=
  X6_delete_b41 S x1 x2 2
set_option maxHeartbeats 4000000 in
set_option maxRecDepth 100000 in
theorem X_X6_delete_b36 {p : Program} {l : Launch} {e : Env} {s : State} {m : MethodId} {args : Array Value} {below : List Frame} {meth : Method} {c : Code} {D : va_G} {cI cZ cJ : ClassId} {ad : Nat → Nat} {rest w0 : va_W} (C : XC p rm_X6_delete s m args meth c cX6_delete 3 (some .int) RX6 wsX6_delete D (t3 cI cZ cJ)) {S : St} {x1 x2 : Int32} {r : Int32 × St} (h : X6_delete_b36 S x1 x2 = some r) : XW p l e rm_X6_delete s m args below meth c D w0 3 (MQ below (QI D (t3 cI cZ cJ) w0 (wM cI cZ ad r.2 rest) s.heap.size r.1) args s 0 0 (va_A w0 s.heap.size)) (wM cI cZ ad S rest) 0 0 36 [(0, .ref (ad 0)), (1, .int x1), (2, .int x2)] [.ref (ad 0)] := by
  unfold X6_delete_b36 at h
  refine x_iconst C (v := 2) dX6_delete_36 (by decide) ?_
  refine x_goto C (t := 41) dX6_delete_37 (by decide) ?_
  exact X_X6_delete_b41 C h
def X6_delete_b7 (S : St) (x1 x2 s0 : Int32) : Option (Int32 × St) :=
  if s0 = 0 then (X6_delete_b41 S x1 x2 1) else (if (S 0 2) = 40 then (X6_delete_b36 S x1 x2) else (if x2 < 2 then (X6_delete_b36 S x1 x2) else ((X6_count S x2).bind fun v30 => if v30 ≤ 0 then (X6_delete_b41 S x1 x2 0) else (X6_delete_b36 S x1 x2))))
set_option maxHeartbeats 4000000 in
set_option maxRecDepth 100000 in
theorem X_X6_delete_b7 {p : Program} {l : Launch} {e : Env} {s : State} {m : MethodId} {args : Array Value} {below : List Frame} {meth : Method} {c : Code} {D : va_G} {cI cZ cJ : ClassId} {ad : Nat → Nat} {rest w0 : va_W} (C : XC p rm_X6_delete s m args meth c cX6_delete 3 (some .int) RX6 wsX6_delete D (t3 cI cZ cJ)) {S : St} {x1 x2 s0 : Int32} {r : Int32 × St} (h : X6_delete_b7 S x1 x2 s0 = some r) : XW p l e rm_X6_delete s m args below meth c D w0 3 (MQ below (QI D (t3 cI cZ cJ) w0 (wM cI cZ ad r.2 rest) s.heap.size r.1) args s 0 0 (va_A w0 s.heap.size)) (wM cI cZ ad S rest) 0 0 7 [(0, .ref (ad 0)), (1, .int x1), (2, .int x2)] [.int s0, .ref (ad 0)] := by
  unfold X6_delete_b7 at h
  refine x_if_ne C (t := 14) dX6_delete_7 (by decide) (fun c7 => ?_) (fun c7 => ?_)
  · replace h := (if_neg c7).symm.trans h
    refine x_aload_n C 0 dX6_delete_14 rfl ?_
    refine x_get C (R' := RX6) (T := TX6) (N := 26) (ci := 6) 0 2 rfl rfl (by decide) rfl rfl hi_X6_delete_6 lk_X6_delete_88 dX6_delete_15 ?_
    refine x_bipush C (v := 40) dX6_delete_18 (by decide) ?_
    refine x_icmp_eq C (t := 36) dX6_delete_20 (by decide) (fun c20 => ?_) (fun c20 => ?_)
    · replace h := (if_pos c20).symm.trans h
      exact X_X6_delete_b36 C h
    · replace h := (if_neg c20).symm.trans h
      refine x_iload_n C 2 dX6_delete_23 rfl ?_
      refine x_iconst C (v := 2) dX6_delete_24 (by decide) ?_
      refine x_icmp_lt C (t := 36) dX6_delete_25 (by decide) (fun c25 => ?_) (fun c25 => ?_)
      · replace h := (if_pos c25).symm.trans h
        exact X_X6_delete_b36 C h
      · replace h := (if_neg c25).symm.trans h
        refine x_aload_n C 0 dX6_delete_28 rfl ?_
        refine x_iload_n C 2 dX6_delete_29 rfl ?_
        obtain ⟨v30, hg30, h⟩ := ob h
        refine x_ci0 (x_runV C (As := [.int x2]) (rest := [.ref (ad 0)]) (c_X6_count hg30) (cw_X6_delete_X6_count_133 C) 0 rfl rfl rfl (Nat.le_of_ble_eq_true rfl) dX6_delete_30 ⟨Nat.zero_le _, Nat.zero_le _⟩) ?_
        refine x_if_le C (t := 40) dX6_delete_33 (by decide) (fun c33 => ?_) (fun c33 => ?_)
        · replace h := (if_pos c33).symm.trans h
          refine x_iconst C (v := 0) dX6_delete_40 (by decide) ?_
          exact X_X6_delete_b41 C h
        · replace h := (if_neg c33).symm.trans h
          exact X_X6_delete_b36 C h
  · replace h := (if_pos c7).symm.trans h
    refine x_iconst C (v := 1) dX6_delete_10 (by decide) ?_
    refine x_goto C (t := 41) dX6_delete_11 (by decide) ?_
    exact X_X6_delete_b41 C h
def X6_delete (S : St) (x1 x2 : Int32) : Option (Int32 × St) :=
  (X6_isHere S x1 x2).bind fun q4 => X6_delete_b7 q4.2 x1 x2 q4.1
set_option maxHeartbeats 4000000 in
set_option maxRecDepth 100000 in
theorem X_X6_delete {p : Program} {l : Launch} {e : Env} {s : State} {m : MethodId} {args : Array Value} {below : List Frame} {meth : Method} {c : Code} {D : va_G} {cI cZ cJ : ClassId} {ad : Nat → Nat} {rest w0 : va_W} (C : XC p rm_X6_delete s m args meth c cX6_delete 3 (some .int) RX6 wsX6_delete D (t3 cI cZ cJ)) {S : St} {x1 x2 : Int32} {r : Int32 × St} (h : X6_delete S x1 x2 = some r) : XW p l e rm_X6_delete s m args below meth c D w0 3 (MQ below (QI D (t3 cI cZ cJ) w0 (wM cI cZ ad r.2 rest) s.heap.size r.1) args s 0 0 (va_A w0 s.heap.size)) (wM cI cZ ad S rest) 0 0 0 [(0, .ref (ad 0)), (1, .int x1), (2, .int x2)] [] := by
  unfold X6_delete at h
  refine x_aload_n C 0 dX6_delete_0 rfl ?_
  refine x_aload_n C 0 dX6_delete_1 rfl ?_
  refine x_iload_n C 1 dX6_delete_2 rfl ?_
  refine x_iload_n C 2 dX6_delete_3 rfl ?_
  obtain ⟨⟨v4, S4⟩, hg4, h⟩ := ob h
  refine x_ci0 (x_runV C (As := [.int x1, .int x2]) (rest := [.ref (ad 0)]) (c_X6_isHere hg4) (cw_X6_delete_X6_isHere_127 C) 0 rfl rfl rfl (Nat.le_of_ble_eq_true rfl) dX6_delete_4 ⟨Nat.zero_le _, Nat.zero_le _⟩) ?_
  exact X_X6_delete_b7 C h
set_option maxRecDepth 100000 in
theorem c_X6_delete {l : Launch} {D : va_G} {cI cZ cJ : ClassId} {ad : Nat → Nat} {S : St} {rest : va_W} {x1 x2 : Int32} {r : Int32 × St} (h : X6_delete S x1 x2 = some r) : ∀ sz, Met l yX6_delete wsX6_delete rm_X6_delete (PC D (t3 cI cZ cJ) [.ref (ad 0), .int x1, .int x2] (wM cI cZ ad S rest) sz) (QI D (t3 cI cZ cJ) (wM cI cZ ad S rest) (wM cI cZ ad r.2 rest) sz r.1) 0 0 (va_A (wM cI cZ ad S rest) sz) := by
  refine x_met (Qc := fun sz => QI D (t3 cI cZ cJ) (wM cI cZ ad S rest) (wM cI cZ ad r.2 rest) sz r.1) RX6 rfl (by decide) rfl (Nat.le_of_ble_eq_true rfl) (fun p e s m args below meth c C => ?_)
  exact X_X6_delete C h
/-! EntryMastersModel.isChange(I)Z -/
abbrev rm_X6_isChange : Room := { frames := 1, cells := 0, slots := 0, locals := 22 }
theorem hi_X6_isChange_6 : ∀ z ∈ u_ws RX6 TX6 26, z ∈ wsX6_isChange := by decide +kernel
theorem lk_X6_isChange_88 : Cond.fieldLink RX6 88 RX6 "changes" "I" ∈ wsX6_isChange := by decide +kernel
theorem cw_X6_isChange_X6_isIn_84 {p : Program} {s : State} {m : MethodId} {args : Array Value} {meth : Method} {c : Code} {D : va_G} {tys : List (ClassId × FieldType)} {R : Room} (C : XC p R s m args meth c cX6_isChange 2 (some .boolean) RX6 wsX6_isChange D tys) : CallB rm_X6_isChange s args RX6 84 yX6_isIn cX6_isIn 3 (some .boolean) wsX6_isIn rm_X6_isIn 0 0 3 ∧ (Cond.static yX6_isIn).before args s = true := va_cwS 3 C.2.2.2.2.1 gX6_isChange_X6_isIn rfl rfl rfl (by decide +kernel) ⟨Nat.le_of_ble_eq_true rfl, Nat.le_of_ble_eq_true rfl⟩
def X6_isChange (S : St) (x1 : Int32) : Option (Int32) :=
  (X6_isIn x1 0 ((S 0 2) - 1)).bind fun v8 => if v8 &&& 1 = v8 then (some v8) else none
set_option maxHeartbeats 4000000 in
set_option maxRecDepth 100000 in
theorem X_X6_isChange {p : Program} {l : Launch} {e : Env} {s : State} {m : MethodId} {args : Array Value} {below : List Frame} {meth : Method} {c : Code} {D : va_G} {cI cZ cJ : ClassId} {ad : Nat → Nat} {rest w0 : va_W} (C : XC p rm_X6_isChange s m args meth c cX6_isChange 2 (some .boolean) RX6 wsX6_isChange D (t3 cI cZ cJ)) {S : St} {x1 : Int32} {r : Int32} (h : X6_isChange S x1 = some r) : XW p l e rm_X6_isChange s m args below meth c D w0 2 (MQ below (QI D (t3 cI cZ cJ) w0 (wM cI cZ ad S rest) s.heap.size r) args s 0 0 (va_A w0 s.heap.size)) (wM cI cZ ad S rest) 0 0 0 [(0, .ref (ad 0)), (1, .int x1)] [] := by
  unfold X6_isChange at h
  refine x_iload_n C 1 dX6_isChange_0 rfl ?_
  refine x_iconst C (v := 0) dX6_isChange_1 (by decide) ?_
  refine x_aload_n C 0 dX6_isChange_2 rfl ?_
  refine x_get C (R' := RX6) (T := TX6) (N := 26) (ci := 6) 0 2 rfl rfl (by decide) rfl rfl hi_X6_isChange_6 lk_X6_isChange_88 dX6_isChange_3 ?_
  refine x_iconst C (v := 1) dX6_isChange_6 (by decide) ?_
  refine x_isub C dX6_isChange_7 ?_
  obtain ⟨v8, hg8, h⟩ := ob h
  refine x_ci0 (x_runS C (As := [.int x1, .int 0, .int ((S 0 2) - 1)]) (rest := []) (c_X6_isIn hg8) (cw_X6_isChange_X6_isIn_84 C) rfl (Nat.le_of_ble_eq_true rfl) dX6_isChange_8 ⟨Nat.zero_le _, Nat.zero_le _⟩) ?_
  obtain ⟨g11, h⟩ := gd h
  obtain rfl := Option.some.inj h
  exact x_zret C g11 dX6_isChange_11
set_option maxRecDepth 100000 in
theorem c_X6_isChange {l : Launch} {D : va_G} {cI cZ cJ : ClassId} {ad : Nat → Nat} {S : St} {rest : va_W} {x1 : Int32} {r : Int32} (h : X6_isChange S x1 = some r) : ∀ sz, Met l yX6_isChange wsX6_isChange rm_X6_isChange (PC D (t3 cI cZ cJ) [.ref (ad 0), .int x1] (wM cI cZ ad S rest) sz) (QI D (t3 cI cZ cJ) (wM cI cZ ad S rest) (wM cI cZ ad S rest) sz r) 0 0 (va_A (wM cI cZ ad S rest) sz) := by
  refine x_met (Qc := fun sz => QI D (t3 cI cZ cJ) (wM cI cZ ad S rest) (wM cI cZ ad S rest) sz r) RX6 rfl (by decide) rfl (Nat.le_of_ble_eq_true rfl) (fun p e s m args below meth c C => ?_)
  exact X_X6_isChange C h
/-! EntryMastersModel.carry(II)Z -/
abbrev rm_X6_carry : Room := { frames := 2, cells := 0, slots := 0, locals := 43 }
theorem hi_X6_carry_6 : ∀ z ∈ u_ws RX6 TX6 26, z ∈ wsX6_carry := by decide +kernel
theorem lk_X6_carry_40 : Cond.fieldLink RX6 40 RX6 "known" "[I" ∈ wsX6_carry := by decide +kernel
theorem lk_X6_carry_80 : Cond.fieldLink RX6 80 RX6 "thrown" "I" ∈ wsX6_carry := by decide +kernel
theorem cw_X6_carry_X6_isChange_137 {p : Program} {s : State} {m : MethodId} {args : Array Value} {meth : Method} {c : Code} {D : va_G} {tys : List (ClassId × FieldType)} {R : Room} (C : XC p R s m args meth c cX6_carry 4 (some .boolean) RX6 wsX6_carry D tys) : CallW rm_X6_carry s args RX6 RX6 137 yX6_isChange cX6_isChange 2 (some .boolean) wsX6_isChange rm_X6_isChange 0 0 1 := cwV 1 C.2.2.2.2.1 gX6_carry_X6_isChange rfl rfl rfl (by decide +kernel) ⟨Nat.le_of_ble_eq_true rfl, Nat.le_of_ble_eq_true rfl⟩
theorem cw_X6_carry_X6_isMaster_120 {p : Program} {s : State} {m : MethodId} {args : Array Value} {meth : Method} {c : Code} {D : va_G} {tys : List (ClassId × FieldType)} {R : Room} (C : XC p R s m args meth c cX6_carry 4 (some .boolean) RX6 wsX6_carry D tys) : CallB rm_X6_carry s args RX6 120 yX6_isMaster cX6_isMaster 1 (some .boolean) wsX6_isMaster rm_X6_isMaster 0 0 1 ∧ (Cond.static yX6_isMaster).before args s = true := va_cwS 1 C.2.2.2.2.1 gX6_carry_X6_isMaster rfl rfl rfl (by decide +kernel) ⟨Nat.le_of_ble_eq_true rfl, Nat.le_of_ble_eq_true rfl⟩
theorem cw_X6_carry_X6_knows_109 {p : Program} {s : State} {m : MethodId} {args : Array Value} {meth : Method} {c : Code} {D : va_G} {tys : List (ClassId × FieldType)} {R : Room} (C : XC p R s m args meth c cX6_carry 4 (some .boolean) RX6 wsX6_carry D tys) : CallW rm_X6_carry s args RX6 RX6 109 yX6_knows cX6_knows 3 (some .boolean) wsX6_knows rm_X6_knows 0 0 2 := cwV 2 C.2.2.2.2.1 gX6_carry_X6_knows rfl rfl rfl (by decide +kernel) ⟨Nat.le_of_ble_eq_true rfl, Nat.le_of_ble_eq_true rfl⟩
def X6_carry_b60 (S : St) (x3 : Int32) : Option (Int32 × St) :=
  if x3 &&& 1 = x3 then (some (x3, S)) else none
set_option maxHeartbeats 4000000 in
set_option maxRecDepth 100000 in
theorem X_X6_carry_b60 {p : Program} {l : Launch} {e : Env} {s : State} {m : MethodId} {args : Array Value} {below : List Frame} {meth : Method} {c : Code} {D : va_G} {cI cZ cJ : ClassId} {ad : Nat → Nat} {rest w0 : va_W} (C : XC p rm_X6_carry s m args meth c cX6_carry 4 (some .boolean) RX6 wsX6_carry D (t3 cI cZ cJ)) {S : St} {x3 : Int32} {r : Int32 × St} (h : X6_carry_b60 S x3 = some r) : XW p l e rm_X6_carry s m args below meth c D w0 4 (MQ below (QI D (t3 cI cZ cJ) w0 (wM cI cZ ad r.2 rest) s.heap.size r.1) args s 0 0 (va_A w0 s.heap.size)) (wM cI cZ ad S rest) 0 0 60 [(3, .int x3)] [] := by
  unfold X6_carry_b60 at h
  refine x_iload_n C 0 dX6_carry_60 rfl ?_
  obtain ⟨g61, h⟩ := gd h
  obtain rfl := Option.some.inj h
  exact x_zret C g61 dX6_carry_61
def X6_carry_b47 (S : St) (x1 x2 s0 : Int32) : Option (Int32 × St) :=
  if inB x1 40 then (if inB x1 40 then (X6_carry_b60 (up S 11 (upd (S 11) x1.toNatClampNeg ((S 11 x1.toNatClampNeg) ||| (1 <<< (x2 &&& 31))))) s0) else none) else none
set_option maxHeartbeats 4000000 in
set_option maxRecDepth 100000 in
theorem X_X6_carry_b47 {p : Program} {l : Launch} {e : Env} {s : State} {m : MethodId} {args : Array Value} {below : List Frame} {meth : Method} {c : Code} {D : va_G} {cI cZ cJ : ClassId} {ad : Nat → Nat} {rest w0 : va_W} (C : XC p rm_X6_carry s m args meth c cX6_carry 4 (some .boolean) RX6 wsX6_carry D (t3 cI cZ cJ)) {S : St} {x1 x2 s0 : Int32} {r : Int32 × St} (h : X6_carry_b47 S x1 x2 s0 = some r) : XW p l e rm_X6_carry s m args below meth c D w0 4 (MQ below (QI D (t3 cI cZ cJ) w0 (wM cI cZ ad r.2 rest) s.heap.size r.1) args s 0 0 (va_A w0 s.heap.size)) (wM cI cZ ad S rest) 0 0 47 [(0, .ref (ad 0)), (1, .int x1), (2, .int x2)] [.int s0] := by
  unfold X6_carry_b47 at h
  refine x_istore_n C (lv' := [(0, .ref (ad 0)), (1, .int x1), (2, .int x2), (3, .int s0)]) dX6_carry_47 (by decide) rfl ?_
  refine x_aload_n C 0 dX6_carry_48 rfl ?_
  refine x_get C (R' := RX6) (T := TX6) (N := 26) (ci := 6) 0 11 rfl rfl (by decide) rfl rfl hi_X6_carry_6 lk_X6_carry_40 dX6_carry_49 ?_
  refine x_iload_n C 1 dX6_carry_52 rfl ?_
  refine x_dup2 C dX6_carry_53 rfl rfl ?_
  obtain ⟨g54, h⟩ := gdB h
  refine x_iald C 11 rfl g54 dX6_carry_54 ?_
  refine x_iconst C (v := 1) dX6_carry_55 (by decide) ?_
  refine x_iload_n C 2 dX6_carry_56 rfl ?_
  refine x_ishl C dX6_carry_57 ?_
  refine x_ior C dX6_carry_58 ?_
  obtain ⟨g59, h⟩ := gdB h
  refine x_iast C 11 rfl g59 dX6_carry_59 (wM_s11 cI cZ ad S rest (upd (S 11) x1.toNatClampNeg ((S 11 x1.toNatClampNeg) ||| (1 <<< (x2 &&& 31))))) ?_
  refine x_locals (lv' := [(3, .int s0)]) [3] rfl ?_
  exact X_X6_carry_b60 C h
def X6_carry_b24 (S : St) (x1 x2 : Int32) : Option (Int32 × St) :=
  if (S 0 25) ≤ 0 then ((X6_knows S x1 x2).bind fun v36 => if v36 = 0 then (X6_carry_b47 S x1 x2 1) else (X6_carry_b47 S x1 x2 0)) else (some (0, S))
set_option maxHeartbeats 4000000 in
set_option maxRecDepth 100000 in
theorem X_X6_carry_b24 {p : Program} {l : Launch} {e : Env} {s : State} {m : MethodId} {args : Array Value} {below : List Frame} {meth : Method} {c : Code} {D : va_G} {cI cZ cJ : ClassId} {ad : Nat → Nat} {rest w0 : va_W} (C : XC p rm_X6_carry s m args meth c cX6_carry 4 (some .boolean) RX6 wsX6_carry D (t3 cI cZ cJ)) {S : St} {x1 x2 : Int32} {r : Int32 × St} (h : X6_carry_b24 S x1 x2 = some r) : XW p l e rm_X6_carry s m args below meth c D w0 4 (MQ below (QI D (t3 cI cZ cJ) w0 (wM cI cZ ad r.2 rest) s.heap.size r.1) args s 0 0 (va_A w0 s.heap.size)) (wM cI cZ ad S rest) 0 0 24 [(0, .ref (ad 0)), (1, .int x1), (2, .int x2)] [] := by
  unfold X6_carry_b24 at h
  refine x_aload_n C 0 dX6_carry_24 rfl ?_
  refine x_get C (R' := RX6) (T := TX6) (N := 26) (ci := 6) 0 25 rfl rfl (by decide) rfl rfl hi_X6_carry_6 lk_X6_carry_80 dX6_carry_25 ?_
  refine x_if_le C (t := 33) dX6_carry_28 (by decide) (fun c28 => ?_) (fun c28 => ?_)
  · replace h := (if_pos c28).symm.trans h
    refine x_aload_n C 0 dX6_carry_33 rfl ?_
    refine x_iload_n C 1 dX6_carry_34 rfl ?_
    refine x_iload_n C 2 dX6_carry_35 rfl ?_
    obtain ⟨v36, hg36, h⟩ := ob h
    refine x_ci0 (x_runV C (As := [.int x1, .int x2]) (rest := []) (c_X6_knows hg36) (cw_X6_carry_X6_knows_109 C) 0 rfl rfl rfl (Nat.le_of_ble_eq_true rfl) dX6_carry_36 ⟨Nat.zero_le _, Nat.zero_le _⟩) ?_
    refine x_if_ne C (t := 46) dX6_carry_39 (by decide) (fun c39 => ?_) (fun c39 => ?_)
    · replace h := (if_neg c39).symm.trans h
      refine x_iconst C (v := 0) dX6_carry_46 (by decide) ?_
      exact X_X6_carry_b47 C h
    · replace h := (if_pos c39).symm.trans h
      refine x_iconst C (v := 1) dX6_carry_42 (by decide) ?_
      refine x_goto C (t := 47) dX6_carry_43 (by decide) ?_
      exact X_X6_carry_b47 C h
  · replace h := (if_neg c28).symm.trans h
    refine x_iconst C (v := 0) dX6_carry_31 (by decide) ?_
    obtain rfl := Option.some.inj h
    exact x_zret C (v := 0) (by decide) dX6_carry_32
def X6_carry_b21 (S : St) (x1 x2 s0 : Int32) : Option (Int32 × St) :=
  X6_carry_b24 (up S 0 (upd (S 0) 25 s0)) x1 x2
set_option maxHeartbeats 4000000 in
set_option maxRecDepth 100000 in
theorem X_X6_carry_b21 {p : Program} {l : Launch} {e : Env} {s : State} {m : MethodId} {args : Array Value} {below : List Frame} {meth : Method} {c : Code} {D : va_G} {cI cZ cJ : ClassId} {ad : Nat → Nat} {rest w0 : va_W} (C : XC p rm_X6_carry s m args meth c cX6_carry 4 (some .boolean) RX6 wsX6_carry D (t3 cI cZ cJ)) {S : St} {x1 x2 s0 : Int32} {r : Int32 × St} (h : X6_carry_b21 S x1 x2 s0 = some r) : XW p l e rm_X6_carry s m args below meth c D w0 4 (MQ below (QI D (t3 cI cZ cJ) w0 (wM cI cZ ad r.2 rest) s.heap.size r.1) args s 0 0 (va_A w0 s.heap.size)) (wM cI cZ ad S rest) 0 0 21 [(0, .ref (ad 0)), (1, .int x1), (2, .int x2)] [.int s0, .ref (ad 0)] := by
  unfold X6_carry_b21 at h
  refine x_put C (R' := RX6) (T := TX6) (N := 26) (ci := 6) tyX6 tyX6_ok nmX6 0 25 rfl rfl (by decide) rfl rfl (lt_ble rfl) rfl hi_X6_carry_6 lk_X6_carry_80 dX6_carry_21 (wM_f0_25 cI cZ ad S rest s0) ?_
  exact X_X6_carry_b24 C h
def X6_carry_b20 (S : St) (x1 x2 : Int32) : Option (Int32 × St) :=
  X6_carry_b21 S x1 x2 1
set_option maxHeartbeats 4000000 in
set_option maxRecDepth 100000 in
theorem X_X6_carry_b20 {p : Program} {l : Launch} {e : Env} {s : State} {m : MethodId} {args : Array Value} {below : List Frame} {meth : Method} {c : Code} {D : va_G} {cI cZ cJ : ClassId} {ad : Nat → Nat} {rest w0 : va_W} (C : XC p rm_X6_carry s m args meth c cX6_carry 4 (some .boolean) RX6 wsX6_carry D (t3 cI cZ cJ)) {S : St} {x1 x2 : Int32} {r : Int32 × St} (h : X6_carry_b20 S x1 x2 = some r) : XW p l e rm_X6_carry s m args below meth c D w0 4 (MQ below (QI D (t3 cI cZ cJ) w0 (wM cI cZ ad r.2 rest) s.heap.size r.1) args s 0 0 (va_A w0 s.heap.size)) (wM cI cZ ad S rest) 0 0 20 [(0, .ref (ad 0)), (1, .int x1), (2, .int x2)] [.ref (ad 0)] := by
  unfold X6_carry_b20 at h
  refine x_iconst C (v := 1) dX6_carry_20 (by decide) ?_
  exact X_X6_carry_b21 C h
def X6_carry (S : St) (x1 x2 : Int32) : Option (Int32 × St) :=
  (X6_isChange S x1).bind fun v3 => if v3 = 0 then (X6_carry_b20 S x1 x2) else ((X6_isMaster x2).bind fun v10 => if v10 = 0 then (X6_carry_b20 S x1 x2) else (X6_carry_b21 S x1 x2 0))
set_option maxHeartbeats 4000000 in
set_option maxRecDepth 100000 in
theorem X_X6_carry {p : Program} {l : Launch} {e : Env} {s : State} {m : MethodId} {args : Array Value} {below : List Frame} {meth : Method} {c : Code} {D : va_G} {cI cZ cJ : ClassId} {ad : Nat → Nat} {rest w0 : va_W} (C : XC p rm_X6_carry s m args meth c cX6_carry 4 (some .boolean) RX6 wsX6_carry D (t3 cI cZ cJ)) {S : St} {x1 x2 : Int32} {r : Int32 × St} (h : X6_carry S x1 x2 = some r) : XW p l e rm_X6_carry s m args below meth c D w0 4 (MQ below (QI D (t3 cI cZ cJ) w0 (wM cI cZ ad r.2 rest) s.heap.size r.1) args s 0 0 (va_A w0 s.heap.size)) (wM cI cZ ad S rest) 0 0 0 [(0, .ref (ad 0)), (1, .int x1), (2, .int x2)] [] := by
  unfold X6_carry at h
  refine x_aload_n C 0 dX6_carry_0 rfl ?_
  refine x_aload_n C 0 dX6_carry_1 rfl ?_
  refine x_iload_n C 1 dX6_carry_2 rfl ?_
  obtain ⟨v3, hg3, h⟩ := ob h
  refine x_ci0 (x_runV C (As := [.int x1]) (rest := [.ref (ad 0)]) (c_X6_isChange hg3) (cw_X6_carry_X6_isChange_137 C) 0 rfl rfl rfl (Nat.le_of_ble_eq_true rfl) dX6_carry_3 ⟨Nat.zero_le _, Nat.zero_le _⟩) ?_
  refine x_if_eq C (t := 20) dX6_carry_6 (by decide) (fun c6 => ?_) (fun c6 => ?_)
  · replace h := (if_pos c6).symm.trans h
    exact X_X6_carry_b20 C h
  · replace h := (if_neg c6).symm.trans h
    refine x_iload_n C 2 dX6_carry_9 rfl ?_
    obtain ⟨v10, hg10, h⟩ := ob h
    refine x_ci0 (x_runS C (As := [.int x2]) (rest := [.ref (ad 0)]) (c_X6_isMaster hg10) (cw_X6_carry_X6_isMaster_120 C) rfl (Nat.le_of_ble_eq_true rfl) dX6_carry_10 ⟨Nat.zero_le _, Nat.zero_le _⟩) ?_
    refine x_if_eq C (t := 20) dX6_carry_13 (by decide) (fun c13 => ?_) (fun c13 => ?_)
    · replace h := (if_pos c13).symm.trans h
      exact X_X6_carry_b20 C h
    · replace h := (if_neg c13).symm.trans h
      refine x_iconst C (v := 0) dX6_carry_16 (by decide) ?_
      refine x_goto C (t := 21) dX6_carry_17 (by decide) ?_
      exact X_X6_carry_b21 C h
set_option maxRecDepth 100000 in
theorem c_X6_carry {l : Launch} {D : va_G} {cI cZ cJ : ClassId} {ad : Nat → Nat} {S : St} {rest : va_W} {x1 x2 : Int32} {r : Int32 × St} (h : X6_carry S x1 x2 = some r) : ∀ sz, Met l yX6_carry wsX6_carry rm_X6_carry (PC D (t3 cI cZ cJ) [.ref (ad 0), .int x1, .int x2] (wM cI cZ ad S rest) sz) (QI D (t3 cI cZ cJ) (wM cI cZ ad S rest) (wM cI cZ ad r.2 rest) sz r.1) 0 0 (va_A (wM cI cZ ad S rest) sz) := by
  refine x_met (Qc := fun sz => QI D (t3 cI cZ cJ) (wM cI cZ ad S rest) (wM cI cZ ad r.2 rest) sz r.1) RX6 rfl (by decide) rfl (Nat.le_of_ble_eq_true rfl) (fun p e s m args below meth c C => ?_)
  exact X_X6_carry C h
/-! EntryMastersModel.changes()I -/
abbrev rm_X6_changes : Room := { frames := 0, cells := 0, slots := 0, locals := 0 }
theorem hi_X6_changes_6 : ∀ z ∈ u_ws RX6 TX6 26, z ∈ wsX6_changes := by decide +kernel
theorem lk_X6_changes_80 : Cond.fieldLink RX6 80 RX6 "thrown" "I" ∈ wsX6_changes := by decide +kernel
theorem lk_X6_changes_88 : Cond.fieldLink RX6 88 RX6 "changes" "I" ∈ wsX6_changes := by decide +kernel
def X6_changes_b5 (S : St) : Option (Int32 × St) :=
  some (S 0 2, S)
set_option maxHeartbeats 4000000 in
set_option maxRecDepth 100000 in
theorem X_X6_changes_b5 {p : Program} {l : Launch} {e : Env} {s : State} {m : MethodId} {args : Array Value} {below : List Frame} {meth : Method} {c : Code} {D : va_G} {cI cZ cJ : ClassId} {ad : Nat → Nat} {rest w0 : va_W} (C : XC p rm_X6_changes s m args meth c cX6_changes 1 (some .int) RX6 wsX6_changes D (t3 cI cZ cJ)) {S : St} {r : Int32 × St} (h : X6_changes_b5 S = some r) : XW p l e rm_X6_changes s m args below meth c D w0 1 (MQ below (QI D (t3 cI cZ cJ) w0 (wM cI cZ ad r.2 rest) s.heap.size r.1) args s 0 0 (va_A w0 s.heap.size)) (wM cI cZ ad S rest) 0 0 5 [(0, .ref (ad 0))] [] := by
  unfold X6_changes_b5 at h
  refine x_aload_n C 0 dX6_changes_5 rfl ?_
  refine x_get C (R' := RX6) (T := TX6) (N := 26) (ci := 6) 0 2 rfl rfl (by decide) rfl rfl hi_X6_changes_6 lk_X6_changes_88 dX6_changes_6 ?_
  obtain rfl := Option.some.inj h
  exact x_iret C dX6_changes_9
def X6_changes (S : St) : Option (Int32 × St) :=
  X6_changes_b5 (up S 0 (upd (S 0) 25 0))
set_option maxHeartbeats 4000000 in
set_option maxRecDepth 100000 in
theorem X_X6_changes {p : Program} {l : Launch} {e : Env} {s : State} {m : MethodId} {args : Array Value} {below : List Frame} {meth : Method} {c : Code} {D : va_G} {cI cZ cJ : ClassId} {ad : Nat → Nat} {rest w0 : va_W} (C : XC p rm_X6_changes s m args meth c cX6_changes 1 (some .int) RX6 wsX6_changes D (t3 cI cZ cJ)) {S : St} {r : Int32 × St} (h : X6_changes S = some r) : XW p l e rm_X6_changes s m args below meth c D w0 1 (MQ below (QI D (t3 cI cZ cJ) w0 (wM cI cZ ad r.2 rest) s.heap.size r.1) args s 0 0 (va_A w0 s.heap.size)) (wM cI cZ ad S rest) 0 0 0 [(0, .ref (ad 0))] [] := by
  unfold X6_changes at h
  refine x_aload_n C 0 dX6_changes_0 rfl ?_
  refine x_iconst C (v := 0) dX6_changes_1 (by decide) ?_
  refine x_put C (R' := RX6) (T := TX6) (N := 26) (ci := 6) tyX6 tyX6_ok nmX6 0 25 rfl rfl (by decide) rfl rfl (lt_ble rfl) rfl hi_X6_changes_6 lk_X6_changes_80 dX6_changes_2 (wM_f0_25 cI cZ ad S rest 0) ?_
  exact X_X6_changes_b5 C h
set_option maxRecDepth 100000 in
theorem c_X6_changes {l : Launch} {D : va_G} {cI cZ cJ : ClassId} {ad : Nat → Nat} {S : St} {rest : va_W} {r : Int32 × St} (h : X6_changes S = some r) : ∀ sz, Met l yX6_changes wsX6_changes rm_X6_changes (PC D (t3 cI cZ cJ) [.ref (ad 0)] (wM cI cZ ad S rest) sz) (QI D (t3 cI cZ cJ) (wM cI cZ ad S rest) (wM cI cZ ad r.2 rest) sz r.1) 0 0 (va_A (wM cI cZ ad S rest) sz) := by
  refine x_met (Qc := fun sz => QI D (t3 cI cZ cJ) (wM cI cZ ad S rest) (wM cI cZ ad r.2 rest) sz r.1) RX6 rfl (by decide) rfl (Nat.le_of_ble_eq_true rfl) (fun p e s m args below meth c C => ?_)
  exact X_X6_changes C h
/-! EntryMastersModel.timeOf(I)I -/
abbrev rm_X6_timeOf : Room := { frames := 2, cells := 0, slots := 0, locals := 43 }
theorem hi_X6_timeOf_6 : ∀ z ∈ u_ws RX6 TX6 26, z ∈ wsX6_timeOf := by decide +kernel
theorem lk_X6_timeOf_34 : Cond.fieldLink RX6 34 RX6 "time" "[I" ∈ wsX6_timeOf := by decide +kernel
theorem lk_X6_timeOf_80 : Cond.fieldLink RX6 80 RX6 "thrown" "I" ∈ wsX6_timeOf := by decide +kernel
theorem cw_X6_timeOf_X6_isChange_137 {p : Program} {s : State} {m : MethodId} {args : Array Value} {meth : Method} {c : Code} {D : va_G} {tys : List (ClassId × FieldType)} {R : Room} (C : XC p R s m args meth c cX6_timeOf 2 (some .int) RX6 wsX6_timeOf D tys) : CallW rm_X6_timeOf s args RX6 RX6 137 yX6_isChange cX6_isChange 2 (some .boolean) wsX6_isChange rm_X6_isChange 0 0 1 := cwV 1 C.2.2.2.2.1 gX6_timeOf_X6_isChange rfl rfl rfl (by decide +kernel) ⟨Nat.le_of_ble_eq_true rfl, Nat.le_of_ble_eq_true rfl⟩
def X6_timeOf_b34 (S : St) (s0 : Int32) : Option (Int32 × St) :=
  some (s0, S)
set_option maxHeartbeats 4000000 in
set_option maxRecDepth 100000 in
theorem X_X6_timeOf_b34 {p : Program} {l : Launch} {e : Env} {s : State} {m : MethodId} {args : Array Value} {below : List Frame} {meth : Method} {c : Code} {D : va_G} {cI cZ cJ : ClassId} {ad : Nat → Nat} {rest w0 : va_W} (C : XC p rm_X6_timeOf s m args meth c cX6_timeOf 2 (some .int) RX6 wsX6_timeOf D (t3 cI cZ cJ)) {S : St} {s0 : Int32} {r : Int32 × St} (h : X6_timeOf_b34 S s0 = some r) : XW p l e rm_X6_timeOf s m args below meth c D w0 2 (MQ below (QI D (t3 cI cZ cJ) w0 (wM cI cZ ad r.2 rest) s.heap.size r.1) args s 0 0 (va_A w0 s.heap.size)) (wM cI cZ ad S rest) 0 0 34 [] [.int s0] := by
  unfold X6_timeOf_b34 at h
  obtain rfl := Option.some.inj h
  exact x_iret C dX6_timeOf_34
def X6_timeOf_b17 (S : St) (x1 : Int32) : Option (Int32 × St) :=
  if (S 0 25) ≤ 0 then (if inB x1 40 then (X6_timeOf_b34 S (S 9 x1.toNatClampNeg)) else none) else (X6_timeOf_b34 S 0)
set_option maxHeartbeats 4000000 in
set_option maxRecDepth 100000 in
theorem X_X6_timeOf_b17 {p : Program} {l : Launch} {e : Env} {s : State} {m : MethodId} {args : Array Value} {below : List Frame} {meth : Method} {c : Code} {D : va_G} {cI cZ cJ : ClassId} {ad : Nat → Nat} {rest w0 : va_W} (C : XC p rm_X6_timeOf s m args meth c cX6_timeOf 2 (some .int) RX6 wsX6_timeOf D (t3 cI cZ cJ)) {S : St} {x1 : Int32} {r : Int32 × St} (h : X6_timeOf_b17 S x1 = some r) : XW p l e rm_X6_timeOf s m args below meth c D w0 2 (MQ below (QI D (t3 cI cZ cJ) w0 (wM cI cZ ad r.2 rest) s.heap.size r.1) args s 0 0 (va_A w0 s.heap.size)) (wM cI cZ ad S rest) 0 0 17 [(0, .ref (ad 0)), (1, .int x1)] [] := by
  unfold X6_timeOf_b17 at h
  refine x_aload_n C 0 dX6_timeOf_17 rfl ?_
  refine x_get C (R' := RX6) (T := TX6) (N := 26) (ci := 6) 0 25 rfl rfl (by decide) rfl rfl hi_X6_timeOf_6 lk_X6_timeOf_80 dX6_timeOf_18 ?_
  refine x_if_le C (t := 28) dX6_timeOf_21 (by decide) (fun c21 => ?_) (fun c21 => ?_)
  · replace h := (if_pos c21).symm.trans h
    refine x_aload_n C 0 dX6_timeOf_28 rfl ?_
    refine x_get C (R' := RX6) (T := TX6) (N := 26) (ci := 6) 0 9 rfl rfl (by decide) rfl rfl hi_X6_timeOf_6 lk_X6_timeOf_34 dX6_timeOf_29 ?_
    refine x_iload_n C 1 dX6_timeOf_32 rfl ?_
    obtain ⟨g33, h⟩ := gdB h
    refine x_iald C 9 rfl g33 dX6_timeOf_33 ?_
    refine x_locals (lv' := []) [] rfl ?_
    exact X_X6_timeOf_b34 C h
  · replace h := (if_neg c21).symm.trans h
    refine x_iconst C (v := 0) dX6_timeOf_24 (by decide) ?_
    refine x_goto C (t := 34) dX6_timeOf_25 (by decide) ?_
    refine x_locals (lv' := []) [] rfl ?_
    exact X_X6_timeOf_b34 C h
def X6_timeOf_b14 (S : St) (x1 s0 : Int32) : Option (Int32 × St) :=
  X6_timeOf_b17 (up S 0 (upd (S 0) 25 s0)) x1
set_option maxHeartbeats 4000000 in
set_option maxRecDepth 100000 in
theorem X_X6_timeOf_b14 {p : Program} {l : Launch} {e : Env} {s : State} {m : MethodId} {args : Array Value} {below : List Frame} {meth : Method} {c : Code} {D : va_G} {cI cZ cJ : ClassId} {ad : Nat → Nat} {rest w0 : va_W} (C : XC p rm_X6_timeOf s m args meth c cX6_timeOf 2 (some .int) RX6 wsX6_timeOf D (t3 cI cZ cJ)) {S : St} {x1 s0 : Int32} {r : Int32 × St} (h : X6_timeOf_b14 S x1 s0 = some r) : XW p l e rm_X6_timeOf s m args below meth c D w0 2 (MQ below (QI D (t3 cI cZ cJ) w0 (wM cI cZ ad r.2 rest) s.heap.size r.1) args s 0 0 (va_A w0 s.heap.size)) (wM cI cZ ad S rest) 0 0 14 [(0, .ref (ad 0)), (1, .int x1)] [.int s0, .ref (ad 0)] := by
  unfold X6_timeOf_b14 at h
  refine x_put C (R' := RX6) (T := TX6) (N := 26) (ci := 6) tyX6 tyX6_ok nmX6 0 25 rfl rfl (by decide) rfl rfl (lt_ble rfl) rfl hi_X6_timeOf_6 lk_X6_timeOf_80 dX6_timeOf_14 (wM_f0_25 cI cZ ad S rest s0) ?_
  exact X_X6_timeOf_b17 C h
def X6_timeOf (S : St) (x1 : Int32) : Option (Int32 × St) :=
  (X6_isChange S x1).bind fun v3 => if v3 = 0 then (X6_timeOf_b14 S x1 1) else (X6_timeOf_b14 S x1 0)
set_option maxHeartbeats 4000000 in
set_option maxRecDepth 100000 in
theorem X_X6_timeOf {p : Program} {l : Launch} {e : Env} {s : State} {m : MethodId} {args : Array Value} {below : List Frame} {meth : Method} {c : Code} {D : va_G} {cI cZ cJ : ClassId} {ad : Nat → Nat} {rest w0 : va_W} (C : XC p rm_X6_timeOf s m args meth c cX6_timeOf 2 (some .int) RX6 wsX6_timeOf D (t3 cI cZ cJ)) {S : St} {x1 : Int32} {r : Int32 × St} (h : X6_timeOf S x1 = some r) : XW p l e rm_X6_timeOf s m args below meth c D w0 2 (MQ below (QI D (t3 cI cZ cJ) w0 (wM cI cZ ad r.2 rest) s.heap.size r.1) args s 0 0 (va_A w0 s.heap.size)) (wM cI cZ ad S rest) 0 0 0 [(0, .ref (ad 0)), (1, .int x1)] [] := by
  unfold X6_timeOf at h
  refine x_aload_n C 0 dX6_timeOf_0 rfl ?_
  refine x_aload_n C 0 dX6_timeOf_1 rfl ?_
  refine x_iload_n C 1 dX6_timeOf_2 rfl ?_
  obtain ⟨v3, hg3, h⟩ := ob h
  refine x_ci0 (x_runV C (As := [.int x1]) (rest := [.ref (ad 0)]) (c_X6_isChange hg3) (cw_X6_timeOf_X6_isChange_137 C) 0 rfl rfl rfl (Nat.le_of_ble_eq_true rfl) dX6_timeOf_3 ⟨Nat.zero_le _, Nat.zero_le _⟩) ?_
  refine x_if_eq C (t := 13) dX6_timeOf_6 (by decide) (fun c6 => ?_) (fun c6 => ?_)
  · replace h := (if_pos c6).symm.trans h
    refine x_iconst C (v := 1) dX6_timeOf_13 (by decide) ?_
    exact X_X6_timeOf_b14 C h
  · replace h := (if_neg c6).symm.trans h
    refine x_iconst C (v := 0) dX6_timeOf_9 (by decide) ?_
    refine x_goto C (t := 14) dX6_timeOf_10 (by decide) ?_
    exact X_X6_timeOf_b14 C h
set_option maxRecDepth 100000 in
theorem c_X6_timeOf {l : Launch} {D : va_G} {cI cZ cJ : ClassId} {ad : Nat → Nat} {S : St} {rest : va_W} {x1 : Int32} {r : Int32 × St} (h : X6_timeOf S x1 = some r) : ∀ sz, Met l yX6_timeOf wsX6_timeOf rm_X6_timeOf (PC D (t3 cI cZ cJ) [.ref (ad 0), .int x1] (wM cI cZ ad S rest) sz) (QI D (t3 cI cZ cJ) (wM cI cZ ad S rest) (wM cI cZ ad r.2 rest) sz r.1) 0 0 (va_A (wM cI cZ ad S rest) sz) := by
  refine x_met (Qc := fun sz => QI D (t3 cI cZ cJ) (wM cI cZ ad S rest) (wM cI cZ ad r.2 rest) sz r.1) RX6 rfl (by decide) rfl (Nat.le_of_ble_eq_true rfl) (fun p e s m args below meth c C => ?_)
  exact X_X6_timeOf C h
/-! EntryMastersModel.entries(I)I -/
abbrev rm_X6_entries : Room := { frames := 6, cells := 0, slots := 0, locals := 136 }
theorem hi_X6_entries_6 : ∀ z ∈ u_ws RX6 TX6 26, z ∈ wsX6_entries := by decide +kernel
theorem lk_X6_entries_80 : Cond.fieldLink RX6 80 RX6 "thrown" "I" ∈ wsX6_entries := by decide +kernel
theorem cw_X6_entries_X6_count_133 {p : Program} {s : State} {m : MethodId} {args : Array Value} {meth : Method} {c : Code} {D : va_G} {tys : List (ClassId × FieldType)} {R : Room} (C : XC p R s m args meth c cX6_entries 2 (some .int) RX6 wsX6_entries D tys) : CallW rm_X6_entries s args RX6 RX6 133 yX6_count cX6_count 4 (some .int) wsX6_count rm_X6_count 0 0 1 := cwV 1 C.2.2.2.2.1 gX6_entries_X6_count rfl rfl rfl (by decide +kernel) ⟨Nat.le_of_ble_eq_true rfl, Nat.le_of_ble_eq_true rfl⟩
theorem cw_X6_entries_X6_isHere_127 {p : Program} {s : State} {m : MethodId} {args : Array Value} {meth : Method} {c : Code} {D : va_G} {tys : List (ClassId × FieldType)} {R : Room} (C : XC p R s m args meth c cX6_entries 2 (some .int) RX6 wsX6_entries D tys) : CallW rm_X6_entries s args RX6 RX6 127 yX6_isHere cX6_isHere 3 (some .boolean) wsX6_isHere rm_X6_isHere 0 0 2 := cwV 2 C.2.2.2.2.1 gX6_entries_X6_isHere rfl rfl rfl (by decide +kernel) ⟨Nat.le_of_ble_eq_true rfl, Nat.le_of_ble_eq_true rfl⟩
def X6_entries_b34 (S : St) (s0 : Int32) : Option (Int32 × St) :=
  some (s0, S)
set_option maxHeartbeats 4000000 in
set_option maxRecDepth 100000 in
theorem X_X6_entries_b34 {p : Program} {l : Launch} {e : Env} {s : State} {m : MethodId} {args : Array Value} {below : List Frame} {meth : Method} {c : Code} {D : va_G} {cI cZ cJ : ClassId} {ad : Nat → Nat} {rest w0 : va_W} (C : XC p rm_X6_entries s m args meth c cX6_entries 2 (some .int) RX6 wsX6_entries D (t3 cI cZ cJ)) {S : St} {s0 : Int32} {r : Int32 × St} (h : X6_entries_b34 S s0 = some r) : XW p l e rm_X6_entries s m args below meth c D w0 2 (MQ below (QI D (t3 cI cZ cJ) w0 (wM cI cZ ad r.2 rest) s.heap.size r.1) args s 0 0 (va_A w0 s.heap.size)) (wM cI cZ ad S rest) 0 0 34 [] [.int s0] := by
  unfold X6_entries_b34 at h
  obtain rfl := Option.some.inj h
  exact x_iret C dX6_entries_34
def X6_entries_b18 (S : St) : Option (Int32 × St) :=
  if (S 0 25) ≤ 0 then ((X6_count S (-1)).bind fun v31 => X6_entries_b34 S v31) else (X6_entries_b34 S 0)
set_option maxHeartbeats 4000000 in
set_option maxRecDepth 100000 in
theorem X_X6_entries_b18 {p : Program} {l : Launch} {e : Env} {s : State} {m : MethodId} {args : Array Value} {below : List Frame} {meth : Method} {c : Code} {D : va_G} {cI cZ cJ : ClassId} {ad : Nat → Nat} {rest w0 : va_W} (C : XC p rm_X6_entries s m args meth c cX6_entries 2 (some .int) RX6 wsX6_entries D (t3 cI cZ cJ)) {S : St} {r : Int32 × St} (h : X6_entries_b18 S = some r) : XW p l e rm_X6_entries s m args below meth c D w0 2 (MQ below (QI D (t3 cI cZ cJ) w0 (wM cI cZ ad r.2 rest) s.heap.size r.1) args s 0 0 (va_A w0 s.heap.size)) (wM cI cZ ad S rest) 0 0 18 [(0, .ref (ad 0))] [] := by
  unfold X6_entries_b18 at h
  refine x_aload_n C 0 dX6_entries_18 rfl ?_
  refine x_get C (R' := RX6) (T := TX6) (N := 26) (ci := 6) 0 25 rfl rfl (by decide) rfl rfl hi_X6_entries_6 lk_X6_entries_80 dX6_entries_19 ?_
  refine x_if_le C (t := 29) dX6_entries_22 (by decide) (fun c22 => ?_) (fun c22 => ?_)
  · replace h := (if_pos c22).symm.trans h
    refine x_aload_n C 0 dX6_entries_29 rfl ?_
    refine x_iconst C (v := (-1)) dX6_entries_30 (by decide) ?_
    obtain ⟨v31, hg31, h⟩ := ob h
    refine x_ci0 (x_runV C (As := [.int (-1)]) (rest := []) (c_X6_count hg31) (cw_X6_entries_X6_count_133 C) 0 rfl rfl rfl (Nat.le_of_ble_eq_true rfl) dX6_entries_31 ⟨Nat.zero_le _, Nat.zero_le _⟩) ?_
    refine x_locals (lv' := []) [] rfl ?_
    exact X_X6_entries_b34 C h
  · replace h := (if_neg c22).symm.trans h
    refine x_iconst C (v := 0) dX6_entries_25 (by decide) ?_
    refine x_goto C (t := 34) dX6_entries_26 (by decide) ?_
    refine x_locals (lv' := []) [] rfl ?_
    exact X_X6_entries_b34 C h
def X6_entries_b15 (S : St) (s0 : Int32) : Option (Int32 × St) :=
  X6_entries_b18 (up S 0 (upd (S 0) 25 s0))
set_option maxHeartbeats 4000000 in
set_option maxRecDepth 100000 in
theorem X_X6_entries_b15 {p : Program} {l : Launch} {e : Env} {s : State} {m : MethodId} {args : Array Value} {below : List Frame} {meth : Method} {c : Code} {D : va_G} {cI cZ cJ : ClassId} {ad : Nat → Nat} {rest w0 : va_W} (C : XC p rm_X6_entries s m args meth c cX6_entries 2 (some .int) RX6 wsX6_entries D (t3 cI cZ cJ)) {S : St} {s0 : Int32} {r : Int32 × St} (h : X6_entries_b15 S s0 = some r) : XW p l e rm_X6_entries s m args below meth c D w0 2 (MQ below (QI D (t3 cI cZ cJ) w0 (wM cI cZ ad r.2 rest) s.heap.size r.1) args s 0 0 (va_A w0 s.heap.size)) (wM cI cZ ad S rest) 0 0 15 [(0, .ref (ad 0))] [.int s0, .ref (ad 0)] := by
  unfold X6_entries_b15 at h
  refine x_put C (R' := RX6) (T := TX6) (N := 26) (ci := 6) tyX6 tyX6_ok nmX6 0 25 rfl rfl (by decide) rfl rfl (lt_ble rfl) rfl hi_X6_entries_6 lk_X6_entries_80 dX6_entries_15 (wM_f0_25 cI cZ ad S rest s0) ?_
  exact X_X6_entries_b18 C h
def X6_entries_b7 (S : St) (s0 : Int32) : Option (Int32 × St) :=
  if s0 = 0 then (X6_entries_b15 S 1) else (X6_entries_b15 S 0)
set_option maxHeartbeats 4000000 in
set_option maxRecDepth 100000 in
theorem X_X6_entries_b7 {p : Program} {l : Launch} {e : Env} {s : State} {m : MethodId} {args : Array Value} {below : List Frame} {meth : Method} {c : Code} {D : va_G} {cI cZ cJ : ClassId} {ad : Nat → Nat} {rest w0 : va_W} (C : XC p rm_X6_entries s m args meth c cX6_entries 2 (some .int) RX6 wsX6_entries D (t3 cI cZ cJ)) {S : St} {s0 : Int32} {r : Int32 × St} (h : X6_entries_b7 S s0 = some r) : XW p l e rm_X6_entries s m args below meth c D w0 2 (MQ below (QI D (t3 cI cZ cJ) w0 (wM cI cZ ad r.2 rest) s.heap.size r.1) args s 0 0 (va_A w0 s.heap.size)) (wM cI cZ ad S rest) 0 0 7 [(0, .ref (ad 0))] [.int s0, .ref (ad 0)] := by
  unfold X6_entries_b7 at h
  refine x_if_eq C (t := 14) dX6_entries_7 (by decide) (fun c7 => ?_) (fun c7 => ?_)
  · replace h := (if_pos c7).symm.trans h
    refine x_iconst C (v := 1) dX6_entries_14 (by decide) ?_
    exact X_X6_entries_b15 C h
  · replace h := (if_neg c7).symm.trans h
    refine x_iconst C (v := 0) dX6_entries_10 (by decide) ?_
    refine x_goto C (t := 15) dX6_entries_11 (by decide) ?_
    exact X_X6_entries_b15 C h
def X6_entries (S : St) (x1 : Int32) : Option (Int32 × St) :=
  (X6_isHere S x1 0).bind fun q4 => X6_entries_b7 q4.2 q4.1
set_option maxHeartbeats 4000000 in
set_option maxRecDepth 100000 in
theorem X_X6_entries {p : Program} {l : Launch} {e : Env} {s : State} {m : MethodId} {args : Array Value} {below : List Frame} {meth : Method} {c : Code} {D : va_G} {cI cZ cJ : ClassId} {ad : Nat → Nat} {rest w0 : va_W} (C : XC p rm_X6_entries s m args meth c cX6_entries 2 (some .int) RX6 wsX6_entries D (t3 cI cZ cJ)) {S : St} {x1 : Int32} {r : Int32 × St} (h : X6_entries S x1 = some r) : XW p l e rm_X6_entries s m args below meth c D w0 2 (MQ below (QI D (t3 cI cZ cJ) w0 (wM cI cZ ad r.2 rest) s.heap.size r.1) args s 0 0 (va_A w0 s.heap.size)) (wM cI cZ ad S rest) 0 0 0 [(0, .ref (ad 0)), (1, .int x1)] [] := by
  unfold X6_entries at h
  refine x_aload_n C 0 dX6_entries_0 rfl ?_
  refine x_aload_n C 0 dX6_entries_1 rfl ?_
  refine x_iload_n C 1 dX6_entries_2 rfl ?_
  refine x_iconst C (v := 0) dX6_entries_3 (by decide) ?_
  obtain ⟨⟨v4, S4⟩, hg4, h⟩ := ob h
  refine x_ci0 (x_runV C (As := [.int x1, .int 0]) (rest := [.ref (ad 0)]) (c_X6_isHere hg4) (cw_X6_entries_X6_isHere_127 C) 0 rfl rfl rfl (Nat.le_of_ble_eq_true rfl) dX6_entries_4 ⟨Nat.zero_le _, Nat.zero_le _⟩) ?_
  refine x_locals (lv' := [(0, .ref (ad 0))]) [0] rfl ?_
  exact X_X6_entries_b7 C h
set_option maxRecDepth 100000 in
theorem c_X6_entries {l : Launch} {D : va_G} {cI cZ cJ : ClassId} {ad : Nat → Nat} {S : St} {rest : va_W} {x1 : Int32} {r : Int32 × St} (h : X6_entries S x1 = some r) : ∀ sz, Met l yX6_entries wsX6_entries rm_X6_entries (PC D (t3 cI cZ cJ) [.ref (ad 0), .int x1] (wM cI cZ ad S rest) sz) (QI D (t3 cI cZ cJ) (wM cI cZ ad S rest) (wM cI cZ ad r.2 rest) sz r.1) 0 0 (va_A (wM cI cZ ad S rest) sz) := by
  refine x_met (Qc := fun sz => QI D (t3 cI cZ cJ) (wM cI cZ ad S rest) (wM cI cZ ad r.2 rest) sz r.1) RX6 rfl (by decide) rfl (Nat.le_of_ble_eq_true rfl) (fun p e s m args below meth c C => ?_)
  exact X_X6_entries C h
