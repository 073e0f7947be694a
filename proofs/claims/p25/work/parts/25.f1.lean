/-! EntryMasters.checkIndex(II)V -/
abbrev rm_X5_checkIndex (kc : Nat) : Room := rmf 6 82 kc
theorem thr_X5_checkIndex_0_k : Cond.classLink RX5 169 (exN 0) ∈ wsX5_checkIndex := by decide +kernel
theorem thr_X5_checkIndex_0_i : Cond.initialized (exN 0) ∈ wsX5_checkIndex := by decide +kernel
theorem thr_X5_checkIndex_0_a : ∀ z ∈ (vx_atS RX5 173 (exN 0) ["java/lang/RuntimeException", "java/lang/Exception"]).filter goodWord, z ∈ wsX5_checkIndex := by decide +kernel
theorem thr_X5_checkIndex_0_b : ∀ z ∈ (vx_atS RX5 173 (exN 0) ["java/lang/RuntimeException", "java/lang/Exception"]).filter (fun z => !goodWord z), z ∈ [Cond.castable (exN 0) (exN 0), Cond.declares (Bundle.initS (deN 0)), Cond.declares (Bundle.initS (deN 1)), Cond.declares (Bundle.initS (deN 2))] := by decide +kernel
theorem thr_X5_checkIndex_0_g : ∀ z ∈ Cond.classLink RX5 169 (exN 0) :: Cond.initialized (exN 0) :: vx_atS RX5 173 (exN 0) ["java/lang/RuntimeException", "java/lang/Exception"], vx_ot z = true := by decide +kernel
def X5_checkIndex_b9  : Option (Nat) :=
  some 1
set_option maxHeartbeats 4000000 in
set_option maxRecDepth 100000 in
theorem X_X5_checkIndex_b9 {p : Program} {l : Launch} {e : Env} {s : State} {m : MethodId} {args : Array Value} {below : List Frame} {meth : Method} {c : Code} {D : va_G} {cI cZ cJ : ClassId} {w w0 : va_W} {z : Nat} (C : XC p (rm_X5_checkIndex z) s m args meth c cX5_checkIndex 2 none RX5 wsX5_checkIndex D (t3 cI cZ cJ)) (T : z ≠ 0 → XT l s c w0) (h : X5_checkIndex_b9  = some z) : XW p l e (rm_X5_checkIndex z) s m args below meth c D w0 2 (QZ z (MQ below (QV D (t3 cI cZ cJ) w0 w s.heap.size) args s 0 0 (va_A w0 s.heap.size)) (fun q9 => vx_MQ below nQ (XX D (t3 cI cZ cJ) w0 w s.heap.size (exN q9)) args s 1 6 (va_A w0 s.heap.size))) w 0 0 9 [] [] := by
  unfold X5_checkIndex_b9 at h
  obtain rfl := Option.some.inj h
  exact x_throw C (T (Nat.succ_ne_zero _)) (kk := 0) rfl (st_mem 5 rfl) thr_X5_checkIndex_0_k thr_X5_checkIndex_0_i thr_X5_checkIndex_0_a thr_X5_checkIndex_0_b thr_X5_checkIndex_0_g (by decide +kernel) dX5_checkIndex_9 dX5_checkIndex_12 dX5_checkIndex_13 dX5_checkIndex_15 dX5_checkIndex_18 (lt_ble rfl) (Nat.le_of_ble_eq_true rfl) (Nat.le_refl _) (Nat.le_refl _)
def X5_checkIndex  (x0 x1 : Int32) : Option (Nat) :=
  if x0 < 0 then (X5_checkIndex_b9) else (if x0 < x1 then (some 0) else (X5_checkIndex_b9))
set_option maxHeartbeats 4000000 in
set_option maxRecDepth 100000 in
theorem X_X5_checkIndex {p : Program} {l : Launch} {e : Env} {s : State} {m : MethodId} {args : Array Value} {below : List Frame} {meth : Method} {c : Code} {D : va_G} {cI cZ cJ : ClassId} {w w0 : va_W} {z : Nat} (C : XC p (rm_X5_checkIndex z) s m args meth c cX5_checkIndex 2 none RX5 wsX5_checkIndex D (t3 cI cZ cJ)) (T : z ≠ 0 → XT l s c w0) {x0 x1 : Int32} (h : X5_checkIndex x0 x1 = some z) : XW p l e (rm_X5_checkIndex z) s m args below meth c D w0 2 (QZ z (MQ below (QV D (t3 cI cZ cJ) w0 w s.heap.size) args s 0 0 (va_A w0 s.heap.size)) (fun q9 => vx_MQ below nQ (XX D (t3 cI cZ cJ) w0 w s.heap.size (exN q9)) args s 1 6 (va_A w0 s.heap.size))) w 0 0 0 [(0, .int x0), (1, .int x1)] [] := by
  unfold X5_checkIndex at h
  refine x_iload_n C 0 dX5_checkIndex_0 rfl ?_
  refine x_if_lt C (t := 9) dX5_checkIndex_1 (by decide) (fun c1 => ?_) (fun c1 => ?_)
  · replace h := (if_pos c1).symm.trans h
    refine x_locals (lv' := []) [] rfl ?_
    exact X_X5_checkIndex_b9 C T h
  · replace h := (if_neg c1).symm.trans h
    refine x_iload_n C 0 dX5_checkIndex_4 rfl ?_
    refine x_iload_n C 1 dX5_checkIndex_5 rfl ?_
    refine x_icmp_lt C (t := 19) dX5_checkIndex_6 (by decide) (fun c6 => ?_) (fun c6 => ?_)
    · replace h := (if_pos c6).symm.trans h
      obtain rfl := Option.some.inj h
      exact x_vret C dX5_checkIndex_19
    · replace h := (if_neg c6).symm.trans h
      refine x_locals (lv' := []) [] rfl ?_
      exact X_X5_checkIndex_b9 C T h
set_option maxRecDepth 100000 in
theorem c_X5_checkIndex_ok {l : Launch} {D : va_G} {cI cZ cJ : ClassId} {w : va_W} {x0 x1 : Int32} (h : X5_checkIndex x0 x1 = some 0) : ∀ sz, Met l yX5_checkIndex wsX5_checkIndex (rm_X5_checkIndex 0) (PC D (t3 cI cZ cJ) [.int x0, .int x1] w sz) (QV D (t3 cI cZ cJ) w w sz) 0 0 (va_A w sz) := by
  refine x_met (Qc := fun sz => QV D (t3 cI cZ cJ) w w sz) RX5 rfl (by decide) rfl (Nat.le_of_ble_eq_true rfl) (fun p e s m args below meth c C => ?_)
  exact X_X5_checkIndex (z := 0) C (fun h9 => (h9 rfl).elim) h
set_option maxRecDepth 100000 in
theorem c_X5_checkIndex_th {l : Launch} {D : va_G} {cI cZ cJ : ClassId} {w : va_W} {x0 x1 : Int32} {q : Nat} (hfl : l.stackTraces = false) (h : X5_checkIndex x0 x1 = some (q + 1)) : ∀ sz, vx_Met l yX5_checkIndex wsX5_checkIndex (rm_X5_checkIndex (q + 1)) (PX D (t3 cI cZ cJ) [.int x0, .int x1] w sz) nQ (XX D (t3 cI cZ cJ) w w sz (exN q)) 1 6 (va_A w sz) := by
  refine x_metX hfl (XCf := fun sz => XX D (t3 cI cZ cJ) w w sz (exN q)) RX5 rfl (by decide) rfl (Nat.le_of_ble_eq_true rfl) (fun p e s m args below meth c C T => ?_)
  exact X_X5_checkIndex (z := q + 1) C (fun _ => T) h
/-! EntryMasters.checkArgument(III)V -/
abbrev rm_X5_checkArgument (kc : Nat) : Room := rmf 6 82 kc
theorem thr_X5_checkArgument_1_k : Cond.classLink RX5 199 (exN 1) ∈ wsX5_checkArgument := by decide +kernel
theorem thr_X5_checkArgument_1_i : Cond.initialized (exN 1) ∈ wsX5_checkArgument := by decide +kernel
theorem thr_X5_checkArgument_1_a : ∀ z ∈ (vx_atS RX5 203 (exN 1) ["java/lang/RuntimeException", "java/lang/Exception"]).filter goodWord, z ∈ wsX5_checkArgument := by decide +kernel
theorem thr_X5_checkArgument_1_b : ∀ z ∈ (vx_atS RX5 203 (exN 1) ["java/lang/RuntimeException", "java/lang/Exception"]).filter (fun z => !goodWord z), z ∈ [Cond.castable (exN 1) (exN 1), Cond.declares (Bundle.initS (deN 0)), Cond.declares (Bundle.initS (deN 1)), Cond.declares (Bundle.initS (deN 2))] := by decide +kernel
theorem thr_X5_checkArgument_1_g : ∀ z ∈ Cond.classLink RX5 199 (exN 1) :: Cond.initialized (exN 1) :: vx_atS RX5 203 (exN 1) ["java/lang/RuntimeException", "java/lang/Exception"], vx_ot z = true := by decide +kernel
def X5_checkArgument_b10  : Option (Nat) :=
  some 2
set_option maxHeartbeats 4000000 in
set_option maxRecDepth 100000 in
theorem X_X5_checkArgument_b10 {p : Program} {l : Launch} {e : Env} {s : State} {m : MethodId} {args : Array Value} {below : List Frame} {meth : Method} {c : Code} {D : va_G} {cI cZ cJ : ClassId} {w w0 : va_W} {z : Nat} (C : XC p (rm_X5_checkArgument z) s m args meth c cX5_checkArgument 3 none RX5 wsX5_checkArgument D (t3 cI cZ cJ)) (T : z ≠ 0 → XT l s c w0) (h : X5_checkArgument_b10  = some z) : XW p l e (rm_X5_checkArgument z) s m args below meth c D w0 3 (QZ z (MQ below (QV D (t3 cI cZ cJ) w0 w s.heap.size) args s 0 0 (va_A w0 s.heap.size)) (fun q9 => vx_MQ below nQ (XX D (t3 cI cZ cJ) w0 w s.heap.size (exN q9)) args s 1 6 (va_A w0 s.heap.size))) w 0 0 10 [] [] := by
  unfold X5_checkArgument_b10 at h
  obtain rfl := Option.some.inj h
  exact x_throw C (T (Nat.succ_ne_zero _)) (kk := 1) rfl (st_mem 7 rfl) thr_X5_checkArgument_1_k thr_X5_checkArgument_1_i thr_X5_checkArgument_1_a thr_X5_checkArgument_1_b thr_X5_checkArgument_1_g (by decide +kernel) dX5_checkArgument_10 dX5_checkArgument_13 dX5_checkArgument_14 dX5_checkArgument_16 dX5_checkArgument_19 (lt_ble rfl) (Nat.le_of_ble_eq_true rfl) (Nat.le_refl _) (Nat.le_refl _)
def X5_checkArgument  (x0 x1 x2 : Int32) : Option (Nat) :=
  if x0 < x1 then (X5_checkArgument_b10) else (if x0 ≤ x2 then (some 0) else (X5_checkArgument_b10))
set_option maxHeartbeats 4000000 in
set_option maxRecDepth 100000 in
theorem X_X5_checkArgument {p : Program} {l : Launch} {e : Env} {s : State} {m : MethodId} {args : Array Value} {below : List Frame} {meth : Method} {c : Code} {D : va_G} {cI cZ cJ : ClassId} {w w0 : va_W} {z : Nat} (C : XC p (rm_X5_checkArgument z) s m args meth c cX5_checkArgument 3 none RX5 wsX5_checkArgument D (t3 cI cZ cJ)) (T : z ≠ 0 → XT l s c w0) {x0 x1 x2 : Int32} (h : X5_checkArgument x0 x1 x2 = some z) : XW p l e (rm_X5_checkArgument z) s m args below meth c D w0 3 (QZ z (MQ below (QV D (t3 cI cZ cJ) w0 w s.heap.size) args s 0 0 (va_A w0 s.heap.size)) (fun q9 => vx_MQ below nQ (XX D (t3 cI cZ cJ) w0 w s.heap.size (exN q9)) args s 1 6 (va_A w0 s.heap.size))) w 0 0 0 [(0, .int x0), (1, .int x1), (2, .int x2)] [] := by
  unfold X5_checkArgument at h
  refine x_iload_n C 0 dX5_checkArgument_0 rfl ?_
  refine x_iload_n C 1 dX5_checkArgument_1 rfl ?_
  refine x_icmp_lt C (t := 10) dX5_checkArgument_2 (by decide) (fun c2 => ?_) (fun c2 => ?_)
  · replace h := (if_pos c2).symm.trans h
    refine x_locals (lv' := []) [] rfl ?_
    exact X_X5_checkArgument_b10 C T h
  · replace h := (if_neg c2).symm.trans h
    refine x_iload_n C 0 dX5_checkArgument_5 rfl ?_
    refine x_iload_n C 2 dX5_checkArgument_6 rfl ?_
    refine x_icmp_le C (t := 20) dX5_checkArgument_7 (by decide) (fun c7 => ?_) (fun c7 => ?_)
    · replace h := (if_pos c7).symm.trans h
      obtain rfl := Option.some.inj h
      exact x_vret C dX5_checkArgument_20
    · replace h := (if_neg c7).symm.trans h
      refine x_locals (lv' := []) [] rfl ?_
      exact X_X5_checkArgument_b10 C T h
set_option maxRecDepth 100000 in
theorem c_X5_checkArgument_ok {l : Launch} {D : va_G} {cI cZ cJ : ClassId} {w : va_W} {x0 x1 x2 : Int32} (h : X5_checkArgument x0 x1 x2 = some 0) : ∀ sz, Met l yX5_checkArgument wsX5_checkArgument (rm_X5_checkArgument 0) (PC D (t3 cI cZ cJ) [.int x0, .int x1, .int x2] w sz) (QV D (t3 cI cZ cJ) w w sz) 0 0 (va_A w sz) := by
  refine x_met (Qc := fun sz => QV D (t3 cI cZ cJ) w w sz) RX5 rfl (by decide) rfl (Nat.le_of_ble_eq_true rfl) (fun p e s m args below meth c C => ?_)
  exact X_X5_checkArgument (z := 0) C (fun h9 => (h9 rfl).elim) h
set_option maxRecDepth 100000 in
theorem c_X5_checkArgument_th {l : Launch} {D : va_G} {cI cZ cJ : ClassId} {w : va_W} {x0 x1 x2 : Int32} {q : Nat} (hfl : l.stackTraces = false) (h : X5_checkArgument x0 x1 x2 = some (q + 1)) : ∀ sz, vx_Met l yX5_checkArgument wsX5_checkArgument (rm_X5_checkArgument (q + 1)) (PX D (t3 cI cZ cJ) [.int x0, .int x1, .int x2] w sz) nQ (XX D (t3 cI cZ cJ) w w sz (exN q)) 1 6 (va_A w sz) := by
  refine x_metX hfl (XCf := fun sz => XX D (t3 cI cZ cJ) w w sz (exN q)) RX5 rfl (by decide) rfl (Nat.le_of_ble_eq_true rfl) (fun p e s m args below meth c C T => ?_)
  exact X_X5_checkArgument (z := q + 1) C (fun _ => T) h
/-! EntryMasters.setClass(III)V -/
abbrev rm_X5_setClass (kc : Nat) : Room := rmf 7 104 kc
theorem thr_X5_setClass_2_k : Cond.classLink RX5 61 (exN 2) ∈ wsX5_setClass := by decide +kernel
theorem thr_X5_setClass_2_i : Cond.initialized (exN 2) ∈ wsX5_setClass := by decide +kernel
theorem thr_X5_setClass_2_a : ∀ z ∈ (vx_atS RX5 65 (exN 2) ["java/lang/RuntimeException", "java/lang/Exception"]).filter goodWord, z ∈ wsX5_setClass := by decide +kernel
theorem thr_X5_setClass_2_b : ∀ z ∈ (vx_atS RX5 65 (exN 2) ["java/lang/RuntimeException", "java/lang/Exception"]).filter (fun z => !goodWord z), z ∈ [Cond.castable (exN 2) (exN 2), Cond.declares (Bundle.initS (deN 0)), Cond.declares (Bundle.initS (deN 1)), Cond.declares (Bundle.initS (deN 2))] := by decide +kernel
theorem thr_X5_setClass_2_g : ∀ z ∈ Cond.classLink RX5 61 (exN 2) :: Cond.initialized (exN 2) :: vx_atS RX5 65 (exN 2) ["java/lang/RuntimeException", "java/lang/Exception"], vx_ot z = true := by decide +kernel
theorem hi_X5_setClass_2 : ∀ z ∈ u_ws RX2 TX2 7, z ∈ wsX5_setClass := by decide +kernel
theorem hi_X5_setClass_5 : ∀ z ∈ u_ws RX5 TX5 6, z ∈ wsX5_setClass := by decide +kernel
theorem lk_X5_setClass_12 : Cond.fieldLink RX5 12 RX5 "classes" "LEntryMasters$Classes;" ∈ wsX5_setClass := by decide +kernel
theorem lk_X5_setClass_19 : Cond.fieldLink RX5 19 RX5 "log" "LEntryMasters$Log;" ∈ wsX5_setClass := by decide +kernel
theorem cw_X5_setClass_X0_define_68 {p : Program} {s : State} {m : MethodId} {args : Array Value} {meth : Method} {c : Code} {D : va_G} {tys : List (ClassId × FieldType)} {R : Room} {kc : Nat} (C : XC p R s m args meth c cX5_setClass 4 none RX5 wsX5_setClass D tys) : CallW (rm_X5_setClass kc) s args RX5 RX0 68 yX0_define cX0_define 4 none wsX0_define rm_X0_define 0 0 3 := cwV 3 C.2.2.2.2.1 gX5_setClass_X0_define rfl rfl rfl (by decide +kernel) ⟨Nat.le_of_ble_eq_true rfl, Nat.le_of_ble_eq_true rfl⟩
theorem cw_X5_setClass_X5_checkArgument_53 {p : Program} {s : State} {m : MethodId} {args : Array Value} {meth : Method} {c : Code} {D : va_G} {tys : List (ClassId × FieldType)} {R : Room} {kc : Nat} (C : XC p R s m args meth c cX5_setClass 4 none RX5 wsX5_setClass D tys) : CallB (rm_X5_setClass kc) s args RX5 53 yX5_checkArgument cX5_checkArgument 3 none wsX5_checkArgument (rm_X5_checkArgument 0) 0 0 3 ∧ (Cond.static yX5_checkArgument).before args s = true := va_cwS 3 C.2.2.2.2.1 gX5_setClass_X5_checkArgument rfl rfl rfl (by decide +kernel) ⟨Nat.le_of_ble_eq_true rfl, Nat.le_of_ble_eq_true rfl⟩
theorem cw_X5_setClass_X5_checkArgument_53_th {p : Program} {s : State} {m : MethodId} {args : Array Value} {meth : Method} {c : Code} {D : va_G} {tys : List (ClassId × FieldType)} {R : Room} {kc : Nat} {q : Nat} (C : XC p R s m args meth c cX5_setClass 4 none RX5 wsX5_setClass D tys) : CallB (rm_X5_setClass kc) s args RX5 53 yX5_checkArgument cX5_checkArgument 3 none wsX5_checkArgument (rm_X5_checkArgument (q + 1)) 1 6 3 ∧ (Cond.static yX5_checkArgument).before args s = true := va_cwS 3 C.2.2.2.2.1 gX5_setClass_X5_checkArgument rfl rfl rfl (by decide +kernel) ⟨Nat.le_of_ble_eq_true rfl, Nat.le_of_ble_eq_true rfl⟩
theorem cw_X5_setClass_X5_checkIndex_49 {p : Program} {s : State} {m : MethodId} {args : Array Value} {meth : Method} {c : Code} {D : va_G} {tys : List (ClassId × FieldType)} {R : Room} {kc : Nat} (C : XC p R s m args meth c cX5_setClass 4 none RX5 wsX5_setClass D tys) : CallB (rm_X5_setClass kc) s args RX5 49 yX5_checkIndex cX5_checkIndex 2 none wsX5_checkIndex (rm_X5_checkIndex 0) 0 0 2 ∧ (Cond.static yX5_checkIndex).before args s = true := va_cwS 2 C.2.2.2.2.1 gX5_setClass_X5_checkIndex rfl rfl rfl (by decide +kernel) ⟨Nat.le_of_ble_eq_true rfl, Nat.le_of_ble_eq_true rfl⟩
theorem cw_X5_setClass_X5_checkIndex_49_th {p : Program} {s : State} {m : MethodId} {args : Array Value} {meth : Method} {c : Code} {D : va_G} {tys : List (ClassId × FieldType)} {R : Room} {kc : Nat} {q : Nat} (C : XC p R s m args meth c cX5_setClass 4 none RX5 wsX5_setClass D tys) : CallB (rm_X5_setClass kc) s args RX5 49 yX5_checkIndex cX5_checkIndex 2 none wsX5_checkIndex (rm_X5_checkIndex (q + 1)) 1 6 2 ∧ (Cond.static yX5_checkIndex).before args s = true := va_cwS 2 C.2.2.2.2.1 gX5_setClass_X5_checkIndex rfl rfl rfl (by decide +kernel) ⟨Nat.le_of_ble_eq_true rfl, Nat.le_of_ble_eq_true rfl⟩
def X5_setClass_b49 (S : St) : Option (Nat × St) :=
  some (0, S)
set_option maxHeartbeats 4000000 in
set_option maxRecDepth 100000 in
theorem X_X5_setClass_b49 {p : Program} {l : Launch} {e : Env} {s : State} {m : MethodId} {args : Array Value} {below : List Frame} {meth : Method} {c : Code} {D : va_G} {cI cZ cJ : ClassId} {ad : Nat → Nat} {rest w0 : va_W} {x y : Nat} {z : Nat × St} (C : XC p (rm_X5_setClass z.1) s m args meth c cX5_setClass 4 none RX5 wsX5_setClass D (t3 cI cZ cJ)) (T : z.1 ≠ 0 → XT l s c w0) {S : St} (h : X5_setClass_b49 S = some z) : XW p l e (rm_X5_setClass z.1) s m args below meth c D w0 4 (QZ z.1 (MQ below (QV D (t3 cI cZ cJ) w0 (wE cI cZ ad z.2 (eo ad x y rest)) s.heap.size) args s 0 0 (va_A w0 s.heap.size)) (fun q9 => vx_MQ below nQ (XX D (t3 cI cZ cJ) w0 (wE cI cZ ad z.2 (eo ad x y rest)) s.heap.size (exN q9)) args s 1 6 (va_A w0 s.heap.size))) (wE cI cZ ad S (eo ad x y rest)) 0 0 49 [] [] := by
  unfold X5_setClass_b49 at h
  obtain rfl := Option.some.inj h
  exact x_vret C dX5_setClass_49
def X5_setClass (S : St) (x1 x2 x3 : Int32) : Option (Nat × St) :=
  (X5_checkIndex x1 3).bind fun q2 => if q2 = 0 then ((X5_checkArgument x2 0 15).bind fun q9 => if q9 = 0 then ((X5_checkArgument x3 0 15).bind fun q16 => if q16 = 0 then (if (S 14 6) ≤ 0 then ((X0_define S x1 x2 x3).bind fun S46 => X5_setClass_b49 S46) else (some (3, S))) else some (q16, S)) else some (q9, S)) else some (q2, S)
set_option maxHeartbeats 4000000 in
set_option maxRecDepth 100000 in
theorem X_X5_setClass {p : Program} {l : Launch} {e : Env} {s : State} {m : MethodId} {args : Array Value} {below : List Frame} {meth : Method} {c : Code} {D : va_G} {cI cZ cJ : ClassId} {ad : Nat → Nat} {rest w0 : va_W} {x y : Nat} {z : Nat × St} (C : XC p (rm_X5_setClass z.1) s m args meth c cX5_setClass 4 none RX5 wsX5_setClass D (t3 cI cZ cJ)) (T : z.1 ≠ 0 → XT l s c w0) {S : St} {x1 x2 x3 : Int32} (h : X5_setClass S x1 x2 x3 = some z) : XW p l e (rm_X5_setClass z.1) s m args below meth c D w0 4 (QZ z.1 (MQ below (QV D (t3 cI cZ cJ) w0 (wE cI cZ ad z.2 (eo ad x y rest)) s.heap.size) args s 0 0 (va_A w0 s.heap.size)) (fun q9 => vx_MQ below nQ (XX D (t3 cI cZ cJ) w0 (wE cI cZ ad z.2 (eo ad x y rest)) s.heap.size (exN q9)) args s 1 6 (va_A w0 s.heap.size))) (wE cI cZ ad S (eo ad x y rest)) 0 0 0 [(0, .ref (ad 32)), (1, .int x1), (2, .int x2), (3, .int x3)] [] := by
  unfold X5_setClass at h
  refine x_iload_n C 1 dX5_setClass_0 rfl ?_
  refine x_iconst C (v := 3) dX5_setClass_1 (by decide) ?_
  obtain ⟨q2, hg2, h⟩ := ob h
  cases q2 with
  | zero =>
    replace h := (if_pos (c := (0 : Nat) = 0) rfl).symm.trans h
    refine x_cv0 (x_runS C (As := [.int x1, .int 3]) (rest := []) (c_X5_checkIndex_ok hg2) (cw_X5_setClass_X5_checkIndex_49 C) rfl (Nat.le_of_ble_eq_true rfl) dX5_setClass_2 ⟨Nat.zero_le _, Nat.zero_le _⟩) ?_
    refine x_iload_n C 2 dX5_setClass_5 rfl ?_
    refine x_iconst C (v := 0) dX5_setClass_6 (by decide) ?_
    refine x_bipush C (v := 15) dX5_setClass_7 (by decide) ?_
    obtain ⟨q9, hg9, h⟩ := ob h
    cases q9 with
    | zero =>
      replace h := (if_pos (c := (0 : Nat) = 0) rfl).symm.trans h
      refine x_cv0 (x_runS C (As := [.int x2, .int 0, .int 15]) (rest := []) (c_X5_checkArgument_ok hg9) (cw_X5_setClass_X5_checkArgument_53 C) rfl (Nat.le_of_ble_eq_true rfl) dX5_setClass_9 ⟨Nat.zero_le _, Nat.zero_le _⟩) ?_
      refine x_iload_n C 3 dX5_setClass_12 rfl ?_
      refine x_iconst C (v := 0) dX5_setClass_13 (by decide) ?_
      refine x_bipush C (v := 15) dX5_setClass_14 (by decide) ?_
      obtain ⟨q16, hg16, h⟩ := ob h
      cases q16 with
      | zero =>
        replace h := (if_pos (c := (0 : Nat) = 0) rfl).symm.trans h
        refine x_cv0 (x_runS C (As := [.int x3, .int 0, .int 15]) (rest := []) (c_X5_checkArgument_ok hg16) (cw_X5_setClass_X5_checkArgument_53 C) rfl (Nat.le_of_ble_eq_true rfl) dX5_setClass_16 ⟨Nat.zero_le _, Nat.zero_le _⟩) ?_
        refine x_aload_n C 0 dX5_setClass_19 rfl ?_
        refine x_get C (R' := RX5) (T := TX5) (N := 6) (ci := 5) 32 1 rfl rfl (by decide) rfl rfl hi_X5_setClass_5 lk_X5_setClass_19 dX5_setClass_20 ?_
        refine x_getN C (R' := RX2) (T := TX2) (N := 7) (ci := 2) 14 6 rfl rfl (by decide) rfl rfl hi_X5_setClass_2 (nf_mem 2 rfl) dX5_setClass_23 ?_
        refine x_if_le C (t := 39) dX5_setClass_26 (by decide) (fun c26 => ?_) (fun c26 => ?_)
        · replace h := (if_pos c26).symm.trans h
          refine x_aload_n C 0 dX5_setClass_39 rfl ?_
          refine x_get C (R' := RX5) (T := TX5) (N := 6) (ci := 5) 32 0 rfl rfl (by decide) rfl rfl hi_X5_setClass_5 lk_X5_setClass_12 dX5_setClass_40 ?_
          refine x_iload_n C 1 dX5_setClass_43 rfl ?_
          refine x_iload_n C 2 dX5_setClass_44 rfl ?_
          refine x_iload_n C 3 dX5_setClass_45 rfl ?_
          obtain ⟨S46, hg46, h⟩ := ob h
          refine x_cv0 (x_runV C (As := [.int x1, .int x2, .int x3]) (rest := []) (c_X0_define hg46) (cw_X5_setClass_X0_define_68 C) 21 rfl rfl rfl (Nat.le_of_ble_eq_true rfl) dX5_setClass_46 ⟨Nat.zero_le _, Nat.zero_le _⟩) ?_
          refine x_locals (lv' := []) [] rfl ?_
          exact X_X5_setClass_b49 C T h
        · replace h := (if_neg c26).symm.trans h
          obtain rfl := Option.some.inj h
          exact x_throw C (T (Nat.succ_ne_zero _)) (kk := 2) rfl (st_mem 0 rfl) thr_X5_setClass_2_k thr_X5_setClass_2_i thr_X5_setClass_2_a thr_X5_setClass_2_b thr_X5_setClass_2_g (by decide +kernel) dX5_setClass_29 dX5_setClass_32 dX5_setClass_33 dX5_setClass_35 dX5_setClass_38 (lt_ble rfl) (Nat.le_of_ble_eq_true rfl) (Nat.le_refl _) (Nat.le_refl _)
      | succ q16 =>
        replace h := (if_neg (Nat.succ_ne_zero q16)).symm.trans h
        obtain rfl := Option.some.inj h
        exact x_cx C (T (Nat.succ_ne_zero _)) (x_runSX C (T (Nat.succ_ne_zero _)).2.2 (As := [.int x3, .int 0, .int 15]) (rest := []) (c_X5_checkArgument_th (T (Nat.succ_ne_zero _)).1 hg16) (cw_X5_setClass_X5_checkArgument_53_th C) rfl (Nat.le_of_ble_eq_true rfl) dX5_setClass_16 ⟨Nat.le_refl _, Nat.le_refl _⟩)
    | succ q9 =>
      replace h := (if_neg (Nat.succ_ne_zero q9)).symm.trans h
      obtain rfl := Option.some.inj h
      exact x_cx C (T (Nat.succ_ne_zero _)) (x_runSX C (T (Nat.succ_ne_zero _)).2.2 (As := [.int x2, .int 0, .int 15]) (rest := []) (c_X5_checkArgument_th (T (Nat.succ_ne_zero _)).1 hg9) (cw_X5_setClass_X5_checkArgument_53_th C) rfl (Nat.le_of_ble_eq_true rfl) dX5_setClass_9 ⟨Nat.le_refl _, Nat.le_refl _⟩)
  | succ q2 =>
    replace h := (if_neg (Nat.succ_ne_zero q2)).symm.trans h
    obtain rfl := Option.some.inj h
    exact x_cx C (T (Nat.succ_ne_zero _)) (x_runSX C (T (Nat.succ_ne_zero _)).2.2 (As := [.int x1, .int 3]) (rest := []) (c_X5_checkIndex_th (T (Nat.succ_ne_zero _)).1 hg2) (cw_X5_setClass_X5_checkIndex_49_th C) rfl (Nat.le_of_ble_eq_true rfl) dX5_setClass_2 ⟨Nat.le_refl _, Nat.le_refl _⟩)
set_option maxRecDepth 100000 in
theorem c_X5_setClass_ok {l : Launch} {D : va_G} {cI cZ cJ : ClassId} {ad : Nat → Nat} {S : St} {rest : va_W} {x y : Nat} {x1 x2 x3 : Int32} {S' : St} (h : X5_setClass S x1 x2 x3 = some (0, S')) : ∀ sz, Met l yX5_setClass wsX5_setClass (rm_X5_setClass 0) (PC D (t3 cI cZ cJ) [.ref (ad 32), .int x1, .int x2, .int x3] (wE cI cZ ad S (eo ad x y rest)) sz) (QV D (t3 cI cZ cJ) (wE cI cZ ad S (eo ad x y rest)) (wE cI cZ ad S' (eo ad x y rest)) sz) 0 0 (va_A (wE cI cZ ad S (eo ad x y rest)) sz) := by
  refine x_met (Qc := fun sz => QV D (t3 cI cZ cJ) (wE cI cZ ad S (eo ad x y rest)) (wE cI cZ ad S' (eo ad x y rest)) sz) RX5 rfl (by decide) rfl (Nat.le_of_ble_eq_true rfl) (fun p e s m args below meth c C => ?_)
  exact X_X5_setClass (z := (0, S')) C (fun h9 => (h9 rfl).elim) h
set_option maxRecDepth 100000 in
theorem c_X5_setClass_th {l : Launch} {D : va_G} {cI cZ cJ : ClassId} {ad : Nat → Nat} {S : St} {rest : va_W} {x y : Nat} {x1 x2 x3 : Int32} {S' : St} {q : Nat} (hfl : l.stackTraces = false) (h : X5_setClass S x1 x2 x3 = some ((q + 1), S')) : ∀ sz, vx_Met l yX5_setClass wsX5_setClass (rm_X5_setClass (q + 1)) (PX D (t3 cI cZ cJ) [.ref (ad 32), .int x1, .int x2, .int x3] (wE cI cZ ad S (eo ad x y rest)) sz) nQ (XX D (t3 cI cZ cJ) (wE cI cZ ad S (eo ad x y rest)) (wE cI cZ ad S' (eo ad x y rest)) sz (exN q)) 1 6 (va_A (wE cI cZ ad S (eo ad x y rest)) sz) := by
  refine x_metX hfl (XCf := fun sz => XX D (t3 cI cZ cJ) (wE cI cZ ad S (eo ad x y rest)) (wE cI cZ ad S' (eo ad x y rest)) sz (exN q)) RX5 rfl (by decide) rfl (Nat.le_of_ble_eq_true rfl) (fun p e s m args below meth c C T => ?_)
  exact X_X5_setClass (z := (q + 1, S')) C (fun _ => T) h
/-! EntryMasters.treeOf(I)LEntryMasters$Tree; -/
abbrev rm_X5_treeOf (kc : Nat) : Room := rmf 7 103 kc
theorem hi_X5_treeOf_5 : ∀ z ∈ u_ws RX5 TX5 6, z ∈ wsX5_treeOf := by decide +kernel
theorem lk_X5_treeOf_28 : Cond.fieldLink RX5 28 RX5 "firstTree" "LEntryMasters$Tree;" ∈ wsX5_treeOf := by decide +kernel
theorem lk_X5_treeOf_32 : Cond.fieldLink RX5 32 RX5 "secondTree" "LEntryMasters$Tree;" ∈ wsX5_treeOf := by decide +kernel
theorem cw_X5_treeOf_X5_checkIndex_49 {p : Program} {s : State} {m : MethodId} {args : Array Value} {meth : Method} {c : Code} {D : va_G} {tys : List (ClassId × FieldType)} {R : Room} {kc : Nat} (C : XC p R s m args meth c cX5_treeOf 2 (some (.object "EntryMasters$Tree")) RX5 wsX5_treeOf D tys) : CallB (rm_X5_treeOf kc) s args RX5 49 yX5_checkIndex cX5_checkIndex 2 none wsX5_checkIndex (rm_X5_checkIndex 0) 0 0 2 ∧ (Cond.static yX5_checkIndex).before args s = true := va_cwS 2 C.2.2.2.2.1 gX5_treeOf_X5_checkIndex rfl rfl rfl (by decide +kernel) ⟨Nat.le_of_ble_eq_true rfl, Nat.le_of_ble_eq_true rfl⟩
theorem cw_X5_treeOf_X5_checkIndex_49_th {p : Program} {s : State} {m : MethodId} {args : Array Value} {meth : Method} {c : Code} {D : va_G} {tys : List (ClassId × FieldType)} {R : Room} {kc : Nat} {q : Nat} (C : XC p R s m args meth c cX5_treeOf 2 (some (.object "EntryMasters$Tree")) RX5 wsX5_treeOf D tys) : CallB (rm_X5_treeOf kc) s args RX5 49 yX5_checkIndex cX5_checkIndex 2 none wsX5_checkIndex (rm_X5_checkIndex (q + 1)) 1 6 2 ∧ (Cond.static yX5_checkIndex).before args s = true := va_cwS 2 C.2.2.2.2.1 gX5_treeOf_X5_checkIndex rfl rfl rfl (by decide +kernel) ⟨Nat.le_of_ble_eq_true rfl, Nat.le_of_ble_eq_true rfl⟩
def X5_treeOf (S : St) (x1 : Int32) : Option (Nat × Bool) :=
  (X5_checkIndex x1 2).bind fun q2 => if q2 = 0 then (if x1 = 0 then (some (0, false)) else (some (0, true))) else some (q2, false)
set_option maxHeartbeats 4000000 in
set_option maxRecDepth 100000 in
theorem X_X5_treeOf {p : Program} {l : Launch} {e : Env} {s : State} {m : MethodId} {args : Array Value} {below : List Frame} {meth : Method} {c : Code} {D : va_G} {cI cZ cJ : ClassId} {ad : Nat → Nat} {rest w0 : va_W} {x y : Nat} {z : Nat × Bool} (C : XC p (rm_X5_treeOf z.1) s m args meth c cX5_treeOf 2 (some (.object "EntryMasters$Tree")) RX5 wsX5_treeOf D (t3 cI cZ cJ)) (T : z.1 ≠ 0 → XT l s c w0) {S : St} {x1 : Int32} (h : X5_treeOf S x1 = some z) : XW p l e (rm_X5_treeOf z.1) s m args below meth c D w0 2 (QZ z.1 (MQ below (QR D (t3 cI cZ cJ) w0 (wE cI cZ ad S (eo ad x y rest)) s.heap.size (bif z.2 then y else x)) args s 0 0 (va_A w0 s.heap.size)) (fun q9 => vx_MQ below nQ (XX D (t3 cI cZ cJ) w0 (wE cI cZ ad S (eo ad x y rest)) s.heap.size (exN q9)) args s 1 6 (va_A w0 s.heap.size))) (wE cI cZ ad S (eo ad x y rest)) 0 0 0 [(0, .ref (ad 32)), (1, .int x1)] [] := by
  unfold X5_treeOf at h
  refine x_iload_n C 1 dX5_treeOf_0 rfl ?_
  refine x_iconst C (v := 2) dX5_treeOf_1 (by decide) ?_
  obtain ⟨q2, hg2, h⟩ := ob h
  cases q2 with
  | zero =>
    replace h := (if_pos (c := (0 : Nat) = 0) rfl).symm.trans h
    refine x_cv0 (x_runS C (As := [.int x1, .int 2]) (rest := []) (c_X5_checkIndex_ok hg2) (cw_X5_treeOf_X5_checkIndex_49 C) rfl (Nat.le_of_ble_eq_true rfl) dX5_treeOf_2 ⟨Nat.zero_le _, Nat.zero_le _⟩) ?_
    refine x_iload_n C 1 dX5_treeOf_5 rfl ?_
    refine x_if_ne C (t := 16) dX5_treeOf_6 (by decide) (fun c6 => ?_) (fun c6 => ?_)
    · replace h := (if_neg c6).symm.trans h
      refine x_aload_n C 0 dX5_treeOf_16 rfl ?_
      refine x_get C (R' := RX5) (T := TX5) (N := 6) (ci := 5) 32 3 rfl rfl (by decide) rfl rfl hi_X5_treeOf_5 lk_X5_treeOf_32 dX5_treeOf_17 ?_
      obtain rfl := Option.some.inj h
      exact x_rret C dX5_treeOf_20
    · replace h := (if_pos c6).symm.trans h
      refine x_aload_n C 0 dX5_treeOf_9 rfl ?_
      refine x_get C (R' := RX5) (T := TX5) (N := 6) (ci := 5) 32 2 rfl rfl (by decide) rfl rfl hi_X5_treeOf_5 lk_X5_treeOf_28 dX5_treeOf_10 ?_
      refine x_goto C (t := 20) dX5_treeOf_13 (by decide) ?_
      obtain rfl := Option.some.inj h
      exact x_rret C dX5_treeOf_20
  | succ q2 =>
    replace h := (if_neg (Nat.succ_ne_zero q2)).symm.trans h
    obtain rfl := Option.some.inj h
    exact x_cx C (T (Nat.succ_ne_zero _)) (x_runSX C (T (Nat.succ_ne_zero _)).2.2 (As := [.int x1, .int 2]) (rest := []) (c_X5_checkIndex_th (T (Nat.succ_ne_zero _)).1 hg2) (cw_X5_treeOf_X5_checkIndex_49_th C) rfl (Nat.le_of_ble_eq_true rfl) dX5_treeOf_2 ⟨Nat.le_refl _, Nat.le_refl _⟩)
set_option maxRecDepth 100000 in
theorem c_X5_treeOf_ok {l : Launch} {D : va_G} {cI cZ cJ : ClassId} {ad : Nat → Nat} {S : St} {rest : va_W} {x y : Nat} {x1 : Int32} {v : Bool} (h : X5_treeOf S x1 = some (0, v)) : ∀ sz, Met l yX5_treeOf wsX5_treeOf (rm_X5_treeOf 0) (PC D (t3 cI cZ cJ) [.ref (ad 32), .int x1] (wE cI cZ ad S (eo ad x y rest)) sz) (QR D (t3 cI cZ cJ) (wE cI cZ ad S (eo ad x y rest)) (wE cI cZ ad S (eo ad x y rest)) sz (bif v then y else x)) 0 0 (va_A (wE cI cZ ad S (eo ad x y rest)) sz) := by
  refine x_met (Qc := fun sz => QR D (t3 cI cZ cJ) (wE cI cZ ad S (eo ad x y rest)) (wE cI cZ ad S (eo ad x y rest)) sz (bif v then y else x)) RX5 rfl (by decide) rfl (Nat.le_of_ble_eq_true rfl) (fun p e s m args below meth c C => ?_)
  exact X_X5_treeOf (z := (0, v)) C (fun h9 => (h9 rfl).elim) h
set_option maxRecDepth 100000 in
theorem c_X5_treeOf_th {l : Launch} {D : va_G} {cI cZ cJ : ClassId} {ad : Nat → Nat} {S : St} {rest : va_W} {x y : Nat} {x1 : Int32} {v : Bool} {q : Nat} (hfl : l.stackTraces = false) (h : X5_treeOf S x1 = some ((q + 1), v)) : ∀ sz, vx_Met l yX5_treeOf wsX5_treeOf (rm_X5_treeOf (q + 1)) (PX D (t3 cI cZ cJ) [.ref (ad 32), .int x1] (wE cI cZ ad S (eo ad x y rest)) sz) nQ (XX D (t3 cI cZ cJ) (wE cI cZ ad S (eo ad x y rest)) (wE cI cZ ad S (eo ad x y rest)) sz (exN q)) 1 6 (va_A (wE cI cZ ad S (eo ad x y rest)) sz) := by
  refine x_metX hfl (XCf := fun sz => XX D (t3 cI cZ cJ) (wE cI cZ ad S (eo ad x y rest)) (wE cI cZ ad S (eo ad x y rest)) sz (exN q)) RX5 rfl (by decide) rfl (Nat.le_of_ble_eq_true rfl) (fun p e s m args below meth c C T => ?_)
  exact X_X5_treeOf (z := (q + 1, v)) C (fun _ => T) h
/-! EntryMasters.checkEntry(LEntryMasters$Tree;I)V -/
abbrev rm_X5_checkEntry (kc : Nat) : Room := rmf 6 82 kc
theorem thr_X5_checkEntry_0_k : Cond.classLink RX5 169 (exN 0) ∈ wsX5_checkEntry := by decide +kernel
theorem thr_X5_checkEntry_0_i : Cond.initialized (exN 0) ∈ wsX5_checkEntry := by decide +kernel
theorem thr_X5_checkEntry_0_a : ∀ z ∈ (vx_atS RX5 173 (exN 0) ["java/lang/RuntimeException", "java/lang/Exception"]).filter goodWord, z ∈ wsX5_checkEntry := by decide +kernel
theorem thr_X5_checkEntry_0_b : ∀ z ∈ (vx_atS RX5 173 (exN 0) ["java/lang/RuntimeException", "java/lang/Exception"]).filter (fun z => !goodWord z), z ∈ [Cond.castable (exN 0) (exN 0), Cond.declares (Bundle.initS (deN 0)), Cond.declares (Bundle.initS (deN 1)), Cond.declares (Bundle.initS (deN 2))] := by decide +kernel
theorem thr_X5_checkEntry_0_g : ∀ z ∈ Cond.classLink RX5 169 (exN 0) :: Cond.initialized (exN 0) :: vx_atS RX5 173 (exN 0) ["java/lang/RuntimeException", "java/lang/Exception"], vx_ot z = true := by decide +kernel
theorem cw_X5_checkEntry_X4_has_135 {p : Program} {s : State} {m : MethodId} {args : Array Value} {meth : Method} {c : Code} {D : va_G} {tys : List (ClassId × FieldType)} {R : Room} {kc : Nat} (C : XC p R s m args meth c cX5_checkEntry 2 none RX5 wsX5_checkEntry D tys) : CallW (rm_X5_checkEntry kc) s args RX5 RX4 135 yX4_has cX4_has 2 (some .boolean) wsX4_has rm_X4_has 0 0 1 := cwV 1 C.2.2.2.2.1 gX5_checkEntry_X4_has rfl rfl rfl (by decide +kernel) ⟨Nat.le_of_ble_eq_true rfl, Nat.le_of_ble_eq_true rfl⟩
def X5_checkEntry (S : St) (x1 : Int32) : Option (Nat) :=
  (X4_has S x1).bind fun v2 => if v2 = 0 then (some 1) else (some 0)
set_option maxHeartbeats 4000000 in
set_option maxRecDepth 100000 in
theorem X_X5_checkEntry {p : Program} {l : Launch} {e : Env} {s : State} {m : MethodId} {args : Array Value} {below : List Frame} {meth : Method} {c : Code} {D : va_G} {cI cZ cJ : ClassId} {ad : Nat → Nat} {rest w0 : va_W} {z : Nat} (C : XC p (rm_X5_checkEntry z) s m args meth c cX5_checkEntry 2 none RX5 wsX5_checkEntry D (t3 cI cZ cJ)) (T : z ≠ 0 → XT l s c w0) {S : St} {x1 : Int32} (h : X5_checkEntry S x1 = some z) : XW p l e (rm_X5_checkEntry z) s m args below meth c D w0 2 (QZ z (MQ below (QV D (t3 cI cZ cJ) w0 (wE cI cZ ad S rest) s.heap.size) args s 0 0 (va_A w0 s.heap.size)) (fun q9 => vx_MQ below nQ (XX D (t3 cI cZ cJ) w0 (wE cI cZ ad S rest) s.heap.size (exN q9)) args s 1 6 (va_A w0 s.heap.size))) (wE cI cZ ad S rest) 0 0 0 [(0, .ref (ad 0)), (1, .int x1)] [] := by
  unfold X5_checkEntry at h
  refine x_aload_n C 0 dX5_checkEntry_0 rfl ?_
  refine x_iload_n C 1 dX5_checkEntry_1 rfl ?_
  obtain ⟨v2, hg2, h⟩ := ob h
  refine x_ci0 (x_runV C (As := [.int x1]) (rest := []) (c_X4_has hg2) (cw_X5_checkEntry_X4_has_135 C) 0 rfl rfl rfl (Nat.le_of_ble_eq_true rfl) dX5_checkEntry_2 ⟨Nat.zero_le _, Nat.zero_le _⟩) ?_
  refine x_if_ne C (t := 18) dX5_checkEntry_5 (by decide) (fun c5 => ?_) (fun c5 => ?_)
  · replace h := (if_neg c5).symm.trans h
    obtain rfl := Option.some.inj h
    exact x_vret C dX5_checkEntry_18
  · replace h := (if_pos c5).symm.trans h
    obtain rfl := Option.some.inj h
    exact x_throw C (T (Nat.succ_ne_zero _)) (kk := 0) rfl (st_mem 6 rfl) thr_X5_checkEntry_0_k thr_X5_checkEntry_0_i thr_X5_checkEntry_0_a thr_X5_checkEntry_0_b thr_X5_checkEntry_0_g (by decide +kernel) dX5_checkEntry_8 dX5_checkEntry_11 dX5_checkEntry_12 dX5_checkEntry_14 dX5_checkEntry_17 (lt_ble rfl) (Nat.le_of_ble_eq_true rfl) (Nat.le_refl _) (Nat.le_refl _)
set_option maxRecDepth 100000 in
theorem c_X5_checkEntry_ok {l : Launch} {D : va_G} {cI cZ cJ : ClassId} {ad : Nat → Nat} {S : St} {rest : va_W} {x1 : Int32} (h : X5_checkEntry S x1 = some 0) : ∀ sz, Met l yX5_checkEntry wsX5_checkEntry (rm_X5_checkEntry 0) (PC D (t3 cI cZ cJ) [.ref (ad 0), .int x1] (wE cI cZ ad S rest) sz) (QV D (t3 cI cZ cJ) (wE cI cZ ad S rest) (wE cI cZ ad S rest) sz) 0 0 (va_A (wE cI cZ ad S rest) sz) := by
  refine x_met (Qc := fun sz => QV D (t3 cI cZ cJ) (wE cI cZ ad S rest) (wE cI cZ ad S rest) sz) RX5 rfl (by decide) rfl (Nat.le_of_ble_eq_true rfl) (fun p e s m args below meth c C => ?_)
  exact X_X5_checkEntry (z := 0) C (fun h9 => (h9 rfl).elim) h
set_option maxRecDepth 100000 in
theorem c_X5_checkEntry_th {l : Launch} {D : va_G} {cI cZ cJ : ClassId} {ad : Nat → Nat} {S : St} {rest : va_W} {x1 : Int32} {q : Nat} (hfl : l.stackTraces = false) (h : X5_checkEntry S x1 = some (q + 1)) : ∀ sz, vx_Met l yX5_checkEntry wsX5_checkEntry (rm_X5_checkEntry (q + 1)) (PX D (t3 cI cZ cJ) [.ref (ad 0), .int x1] (wE cI cZ ad S rest) sz) nQ (XX D (t3 cI cZ cJ) (wE cI cZ ad S rest) (wE cI cZ ad S rest) sz (exN q)) 1 6 (va_A (wE cI cZ ad S rest) sz) := by
  refine x_metX hfl (XCf := fun sz => XX D (t3 cI cZ cJ) (wE cI cZ ad S rest) (wE cI cZ ad S rest) sz (exN q)) RX5 rfl (by decide) rfl (Nat.le_of_ble_eq_true rfl) (fun p e s m args below meth c C T => ?_)
  exact X_X5_checkEntry (z := q + 1) C (fun _ => T) h
/-! EntryMasters.checkRoomForChange()V -/
abbrev rm_X5_checkRoomForChange (kc : Nat) : Room := rmf 6 82 kc
theorem thr_X5_checkRoomForChange_2_k : Cond.classLink RX5 61 (exN 2) ∈ wsX5_checkRoomForChange := by decide +kernel
theorem thr_X5_checkRoomForChange_2_i : Cond.initialized (exN 2) ∈ wsX5_checkRoomForChange := by decide +kernel
theorem thr_X5_checkRoomForChange_2_a : ∀ z ∈ (vx_atS RX5 65 (exN 2) ["java/lang/RuntimeException", "java/lang/Exception"]).filter goodWord, z ∈ wsX5_checkRoomForChange := by decide +kernel
theorem thr_X5_checkRoomForChange_2_b : ∀ z ∈ (vx_atS RX5 65 (exN 2) ["java/lang/RuntimeException", "java/lang/Exception"]).filter (fun z => !goodWord z), z ∈ [Cond.castable (exN 2) (exN 2), Cond.declares (Bundle.initS (deN 0)), Cond.declares (Bundle.initS (deN 1)), Cond.declares (Bundle.initS (deN 2))] := by decide +kernel
theorem thr_X5_checkRoomForChange_2_g : ∀ z ∈ Cond.classLink RX5 61 (exN 2) :: Cond.initialized (exN 2) :: vx_atS RX5 65 (exN 2) ["java/lang/RuntimeException", "java/lang/Exception"], vx_ot z = true := by decide +kernel
theorem hi_X5_checkRoomForChange_2 : ∀ z ∈ u_ws RX2 TX2 7, z ∈ wsX5_checkRoomForChange := by decide +kernel
theorem hi_X5_checkRoomForChange_5 : ∀ z ∈ u_ws RX5 TX5 6, z ∈ wsX5_checkRoomForChange := by decide +kernel
theorem lk_X5_checkRoomForChange_19 : Cond.fieldLink RX5 19 RX5 "log" "LEntryMasters$Log;" ∈ wsX5_checkRoomForChange := by decide +kernel
def X5_checkRoomForChange (S : St) : Option (Nat) :=
  if (S 14 6) < 40 then (some 0) else (some 3)
set_option maxHeartbeats 4000000 in
set_option maxRecDepth 100000 in
theorem X_X5_checkRoomForChange {p : Program} {l : Launch} {e : Env} {s : State} {m : MethodId} {args : Array Value} {below : List Frame} {meth : Method} {c : Code} {D : va_G} {cI cZ cJ : ClassId} {ad : Nat → Nat} {rest w0 : va_W} {x y : Nat} {z : Nat} (C : XC p (rm_X5_checkRoomForChange z) s m args meth c cX5_checkRoomForChange 1 none RX5 wsX5_checkRoomForChange D (t3 cI cZ cJ)) (T : z ≠ 0 → XT l s c w0) {S : St} (h : X5_checkRoomForChange S = some z) : XW p l e (rm_X5_checkRoomForChange z) s m args below meth c D w0 1 (QZ z (MQ below (QV D (t3 cI cZ cJ) w0 (wE cI cZ ad S (eo ad x y rest)) s.heap.size) args s 0 0 (va_A w0 s.heap.size)) (fun q9 => vx_MQ below nQ (XX D (t3 cI cZ cJ) w0 (wE cI cZ ad S (eo ad x y rest)) s.heap.size (exN q9)) args s 1 6 (va_A w0 s.heap.size))) (wE cI cZ ad S (eo ad x y rest)) 0 0 0 [(0, .ref (ad 32))] [] := by
  unfold X5_checkRoomForChange at h
  refine x_aload_n C 0 dX5_checkRoomForChange_0 rfl ?_
  refine x_get C (R' := RX5) (T := TX5) (N := 6) (ci := 5) 32 1 rfl rfl (by decide) rfl rfl hi_X5_checkRoomForChange_5 lk_X5_checkRoomForChange_19 dX5_checkRoomForChange_1 ?_
  refine x_getN C (R' := RX2) (T := TX2) (N := 7) (ci := 2) 14 6 rfl rfl (by decide) rfl rfl hi_X5_checkRoomForChange_2 (nf_mem 2 rfl) dX5_checkRoomForChange_4 ?_
  refine x_bipush C (v := 40) dX5_checkRoomForChange_7 (by decide) ?_
  refine x_icmp_lt C (t := 22) dX5_checkRoomForChange_9 (by decide) (fun c9 => ?_) (fun c9 => ?_)
  · replace h := (if_pos c9).symm.trans h
    obtain rfl := Option.some.inj h
    exact x_vret C dX5_checkRoomForChange_22
  · replace h := (if_neg c9).symm.trans h
    obtain rfl := Option.some.inj h
    exact x_throw C (T (Nat.succ_ne_zero _)) (kk := 2) rfl (st_mem 8 rfl) thr_X5_checkRoomForChange_2_k thr_X5_checkRoomForChange_2_i thr_X5_checkRoomForChange_2_a thr_X5_checkRoomForChange_2_b thr_X5_checkRoomForChange_2_g (by decide +kernel) dX5_checkRoomForChange_12 dX5_checkRoomForChange_15 dX5_checkRoomForChange_16 dX5_checkRoomForChange_18 dX5_checkRoomForChange_21 (lt_ble rfl) (Nat.le_of_ble_eq_true rfl) (Nat.le_refl _) (Nat.le_refl _)
set_option maxRecDepth 100000 in
theorem c_X5_checkRoomForChange_ok {l : Launch} {D : va_G} {cI cZ cJ : ClassId} {ad : Nat → Nat} {S : St} {rest : va_W} {x y : Nat} (h : X5_checkRoomForChange S = some 0) : ∀ sz, Met l yX5_checkRoomForChange wsX5_checkRoomForChange (rm_X5_checkRoomForChange 0) (PC D (t3 cI cZ cJ) [.ref (ad 32)] (wE cI cZ ad S (eo ad x y rest)) sz) (QV D (t3 cI cZ cJ) (wE cI cZ ad S (eo ad x y rest)) (wE cI cZ ad S (eo ad x y rest)) sz) 0 0 (va_A (wE cI cZ ad S (eo ad x y rest)) sz) := by
  refine x_met (Qc := fun sz => QV D (t3 cI cZ cJ) (wE cI cZ ad S (eo ad x y rest)) (wE cI cZ ad S (eo ad x y rest)) sz) RX5 rfl (by decide) rfl (Nat.le_of_ble_eq_true rfl) (fun p e s m args below meth c C => ?_)
  exact X_X5_checkRoomForChange (z := 0) C (fun h9 => (h9 rfl).elim) h
set_option maxRecDepth 100000 in
theorem c_X5_checkRoomForChange_th {l : Launch} {D : va_G} {cI cZ cJ : ClassId} {ad : Nat → Nat} {S : St} {rest : va_W} {x y : Nat} {q : Nat} (hfl : l.stackTraces = false) (h : X5_checkRoomForChange S = some (q + 1)) : ∀ sz, vx_Met l yX5_checkRoomForChange wsX5_checkRoomForChange (rm_X5_checkRoomForChange (q + 1)) (PX D (t3 cI cZ cJ) [.ref (ad 32)] (wE cI cZ ad S (eo ad x y rest)) sz) nQ (XX D (t3 cI cZ cJ) (wE cI cZ ad S (eo ad x y rest)) (wE cI cZ ad S (eo ad x y rest)) sz (exN q)) 1 6 (va_A (wE cI cZ ad S (eo ad x y rest)) sz) := by
  refine x_metX hfl (XCf := fun sz => XX D (t3 cI cZ cJ) (wE cI cZ ad S (eo ad x y rest)) (wE cI cZ ad S (eo ad x y rest)) sz (exN q)) RX5 rfl (by decide) rfl (Nat.le_of_ble_eq_true rfl) (fun p e s m args below meth c C T => ?_)
  exact X_X5_checkRoomForChange (z := q + 1) C (fun _ => T) h
/-! EntryMasters.checkLabelIsFree(LEntryMasters$Tree;III)V -/
abbrev rm_X5_checkLabelIsFree (kc : Nat) : Room := rmf 6 82 kc
theorem thr_X5_checkLabelIsFree_2_k : Cond.classLink RX5 61 (exN 2) ∈ wsX5_checkLabelIsFree := by decide +kernel
theorem thr_X5_checkLabelIsFree_2_i : Cond.initialized (exN 2) ∈ wsX5_checkLabelIsFree := by decide +kernel
theorem thr_X5_checkLabelIsFree_2_a : ∀ z ∈ (vx_atS RX5 65 (exN 2) ["java/lang/RuntimeException", "java/lang/Exception"]).filter goodWord, z ∈ wsX5_checkLabelIsFree := by decide +kernel
theorem thr_X5_checkLabelIsFree_2_b : ∀ z ∈ (vx_atS RX5 65 (exN 2) ["java/lang/RuntimeException", "java/lang/Exception"]).filter (fun z => !goodWord z), z ∈ [Cond.castable (exN 2) (exN 2), Cond.declares (Bundle.initS (deN 0)), Cond.declares (Bundle.initS (deN 1)), Cond.declares (Bundle.initS (deN 2))] := by decide +kernel
theorem thr_X5_checkLabelIsFree_2_g : ∀ z ∈ Cond.classLink RX5 61 (exN 2) :: Cond.initialized (exN 2) :: vx_atS RX5 65 (exN 2) ["java/lang/RuntimeException", "java/lang/Exception"], vx_ot z = true := by decide +kernel
theorem cw_X5_checkLabelIsFree_X4_childWithLabelLike_144 {p : Program} {s : State} {m : MethodId} {args : Array Value} {meth : Method} {c : Code} {D : va_G} {tys : List (ClassId × FieldType)} {R : Room} {kc : Nat} (C : XC p R s m args meth c cX5_checkLabelIsFree 4 none RX5 wsX5_checkLabelIsFree D tys) : CallW (rm_X5_checkLabelIsFree kc) s args RX5 RX4 144 yX4_childWithLabelLike cX4_childWithLabelLike 5 (some .int) wsX4_childWithLabelLike rm_X4_childWithLabelLike 0 0 3 := cwV 3 C.2.2.2.2.1 gX5_checkLabelIsFree_X4_childWithLabelLike rfl rfl rfl (by decide +kernel) ⟨Nat.le_of_ble_eq_true rfl, Nat.le_of_ble_eq_true rfl⟩
def X5_checkLabelIsFree (S : St) (x1 x2 x3 : Int32) : Option (Nat) :=
  (X4_childWithLabelLike S x1 x2 x3).bind fun v4 => if v4 = (-1) then (some 0) else (some 3)
set_option maxHeartbeats 4000000 in
set_option maxRecDepth 100000 in
theorem X_X5_checkLabelIsFree {p : Program} {l : Launch} {e : Env} {s : State} {m : MethodId} {args : Array Value} {below : List Frame} {meth : Method} {c : Code} {D : va_G} {cI cZ cJ : ClassId} {ad : Nat → Nat} {rest w0 : va_W} {z : Nat} (C : XC p (rm_X5_checkLabelIsFree z) s m args meth c cX5_checkLabelIsFree 4 none RX5 wsX5_checkLabelIsFree D (t3 cI cZ cJ)) (T : z ≠ 0 → XT l s c w0) {S : St} {x1 x2 x3 : Int32} (h : X5_checkLabelIsFree S x1 x2 x3 = some z) : XW p l e (rm_X5_checkLabelIsFree z) s m args below meth c D w0 4 (QZ z (MQ below (QV D (t3 cI cZ cJ) w0 (wE cI cZ ad S rest) s.heap.size) args s 0 0 (va_A w0 s.heap.size)) (fun q9 => vx_MQ below nQ (XX D (t3 cI cZ cJ) w0 (wE cI cZ ad S rest) s.heap.size (exN q9)) args s 1 6 (va_A w0 s.heap.size))) (wE cI cZ ad S rest) 0 0 0 [(0, .ref (ad 0)), (1, .int x1), (2, .int x2), (3, .int x3)] [] := by
  unfold X5_checkLabelIsFree at h
  refine x_aload_n C 0 dX5_checkLabelIsFree_0 rfl ?_
  refine x_iload_n C 1 dX5_checkLabelIsFree_1 rfl ?_
  refine x_iload_n C 2 dX5_checkLabelIsFree_2 rfl ?_
  refine x_iload_n C 3 dX5_checkLabelIsFree_3 rfl ?_
  obtain ⟨v4, hg4, h⟩ := ob h
  refine x_ci0 (x_runV C (As := [.int x1, .int x2, .int x3]) (rest := []) (c_X4_childWithLabelLike hg4) (cw_X5_checkLabelIsFree_X4_childWithLabelLike_144 C) 0 rfl rfl rfl (Nat.le_of_ble_eq_true rfl) dX5_checkLabelIsFree_4 ⟨Nat.zero_le _, Nat.zero_le _⟩) ?_
  refine x_iconst C (v := (-1)) dX5_checkLabelIsFree_7 (by decide) ?_
  refine x_icmp_eq C (t := 21) dX5_checkLabelIsFree_8 (by decide) (fun c8 => ?_) (fun c8 => ?_)
  · replace h := (if_pos c8).symm.trans h
    obtain rfl := Option.some.inj h
    exact x_vret C dX5_checkLabelIsFree_21
  · replace h := (if_neg c8).symm.trans h
    obtain rfl := Option.some.inj h
    exact x_throw C (T (Nat.succ_ne_zero _)) (kk := 2) rfl (st_mem 11 rfl) thr_X5_checkLabelIsFree_2_k thr_X5_checkLabelIsFree_2_i thr_X5_checkLabelIsFree_2_a thr_X5_checkLabelIsFree_2_b thr_X5_checkLabelIsFree_2_g (by decide +kernel) dX5_checkLabelIsFree_11 dX5_checkLabelIsFree_14 dX5_checkLabelIsFree_15 dX5_checkLabelIsFree_17 dX5_checkLabelIsFree_20 (lt_ble rfl) (Nat.le_of_ble_eq_true rfl) (Nat.le_refl _) (Nat.le_refl _)
set_option maxRecDepth 100000 in
theorem c_X5_checkLabelIsFree_ok {l : Launch} {D : va_G} {cI cZ cJ : ClassId} {ad : Nat → Nat} {S : St} {rest : va_W} {x1 x2 x3 : Int32} (h : X5_checkLabelIsFree S x1 x2 x3 = some 0) : ∀ sz, Met l yX5_checkLabelIsFree wsX5_checkLabelIsFree (rm_X5_checkLabelIsFree 0) (PC D (t3 cI cZ cJ) [.ref (ad 0), .int x1, .int x2, .int x3] (wE cI cZ ad S rest) sz) (QV D (t3 cI cZ cJ) (wE cI cZ ad S rest) (wE cI cZ ad S rest) sz) 0 0 (va_A (wE cI cZ ad S rest) sz) := by
  refine x_met (Qc := fun sz => QV D (t3 cI cZ cJ) (wE cI cZ ad S rest) (wE cI cZ ad S rest) sz) RX5 rfl (by decide) rfl (Nat.le_of_ble_eq_true rfl) (fun p e s m args below meth c C => ?_)
  exact X_X5_checkLabelIsFree (z := 0) C (fun h9 => (h9 rfl).elim) h
set_option maxRecDepth 100000 in
theorem c_X5_checkLabelIsFree_th {l : Launch} {D : va_G} {cI cZ cJ : ClassId} {ad : Nat → Nat} {S : St} {rest : va_W} {x1 x2 x3 : Int32} {q : Nat} (hfl : l.stackTraces = false) (h : X5_checkLabelIsFree S x1 x2 x3 = some (q + 1)) : ∀ sz, vx_Met l yX5_checkLabelIsFree wsX5_checkLabelIsFree (rm_X5_checkLabelIsFree (q + 1)) (PX D (t3 cI cZ cJ) [.ref (ad 0), .int x1, .int x2, .int x3] (wE cI cZ ad S rest) sz) nQ (XX D (t3 cI cZ cJ) (wE cI cZ ad S rest) (wE cI cZ ad S rest) sz (exN q)) 1 6 (va_A (wE cI cZ ad S rest) sz) := by
  refine x_metX hfl (XCf := fun sz => XX D (t3 cI cZ cJ) (wE cI cZ ad S rest) (wE cI cZ ad S rest) sz (exN q)) RX5 rfl (by decide) rfl (Nat.le_of_ble_eq_true rfl) (fun p e s m args below meth c C T => ?_)
  exact X_X5_checkLabelIsFree (z := q + 1) C (fun _ => T) h
/-! EntryMasters.add(IIII)I -/
abbrev rm_X5_add (kc : Nat) : Room := rmf 8 138 kc
theorem hi_X5_add_2 : ∀ z ∈ u_ws RX2 TX2 7, z ∈ wsX5_add := by decide +kernel
theorem hi_X5_add_5 : ∀ z ∈ u_ws RX5 TX5 6, z ∈ wsX5_add := by decide +kernel
theorem lk_X5_add_19 : Cond.fieldLink RX5 19 RX5 "log" "LEntryMasters$Log;" ∈ wsX5_add := by decide +kernel
theorem cw_X5_add_X2_append_90 {p : Program} {s : State} {m : MethodId} {args : Array Value} {meth : Method} {c : Code} {D : va_G} {tys : List (ClassId × FieldType)} {R : Room} {kc : Nat} (C : XC p R s m args meth c cX5_add 7 (some .int) RX5 wsX5_add D tys) : CallW (rm_X5_add kc) s args RX5 RX2 90 yX2_append cX2_append 8 (some .int) wsX2_append rm_X2_append 0 0 6 := cwV 6 C.2.2.2.2.1 gX5_add_X2_append rfl rfl rfl (by decide +kernel) ⟨Nat.le_of_ble_eq_true rfl, Nat.le_of_ble_eq_true rfl⟩
theorem cw_X5_add_X4_learn_94 {p : Program} {s : State} {m : MethodId} {args : Array Value} {meth : Method} {c : Code} {D : va_G} {tys : List (ClassId × FieldType)} {R : Room} {kc : Nat} (C : XC p R s m args meth c cX5_add 7 (some .int) RX5 wsX5_add D tys) : CallW (rm_X5_add kc) s args RX5 RX4 94 yX4_learn cX4_learn 3 none wsX4_learn rm_X4_learn 0 0 1 := cwV 1 C.2.2.2.2.1 gX5_add_X4_learn rfl rfl rfl (by decide +kernel) ⟨Nat.le_of_ble_eq_true rfl, Nat.le_of_ble_eq_true rfl⟩
theorem cw_X5_add_X4_stampOfNext_86 {p : Program} {s : State} {m : MethodId} {args : Array Value} {meth : Method} {c : Code} {D : va_G} {tys : List (ClassId × FieldType)} {R : Room} {kc : Nat} (C : XC p R s m args meth c cX5_add 7 (some .int) RX5 wsX5_add D tys) : CallW (rm_X5_add kc) s args RX5 RX4 86 yX4_stampOfNext cX4_stampOfNext 2 (some .int) wsX4_stampOfNext rm_X4_stampOfNext 0 0 0 := cwV 0 C.2.2.2.2.1 gX5_add_X4_stampOfNext rfl rfl rfl (by decide +kernel) ⟨Nat.le_of_ble_eq_true rfl, Nat.le_of_ble_eq_true rfl⟩
theorem cw_X5_add_X5_checkArgument_53 {p : Program} {s : State} {m : MethodId} {args : Array Value} {meth : Method} {c : Code} {D : va_G} {tys : List (ClassId × FieldType)} {R : Room} {kc : Nat} (C : XC p R s m args meth c cX5_add 7 (some .int) RX5 wsX5_add D tys) : CallB (rm_X5_add kc) s args RX5 53 yX5_checkArgument cX5_checkArgument 3 none wsX5_checkArgument (rm_X5_checkArgument 0) 0 0 3 ∧ (Cond.static yX5_checkArgument).before args s = true := va_cwS 3 C.2.2.2.2.1 gX5_add_X5_checkArgument rfl rfl rfl (by decide +kernel) ⟨Nat.le_of_ble_eq_true rfl, Nat.le_of_ble_eq_true rfl⟩
theorem cw_X5_add_X5_checkArgument_53_th {p : Program} {s : State} {m : MethodId} {args : Array Value} {meth : Method} {c : Code} {D : va_G} {tys : List (ClassId × FieldType)} {R : Room} {kc : Nat} {q : Nat} (C : XC p R s m args meth c cX5_add 7 (some .int) RX5 wsX5_add D tys) : CallB (rm_X5_add kc) s args RX5 53 yX5_checkArgument cX5_checkArgument 3 none wsX5_checkArgument (rm_X5_checkArgument (q + 1)) 1 6 3 ∧ (Cond.static yX5_checkArgument).before args s = true := va_cwS 3 C.2.2.2.2.1 gX5_add_X5_checkArgument rfl rfl rfl (by decide +kernel) ⟨Nat.le_of_ble_eq_true rfl, Nat.le_of_ble_eq_true rfl⟩
theorem cw_X5_add_X5_checkEntry_75 {p : Program} {s : State} {m : MethodId} {args : Array Value} {meth : Method} {c : Code} {D : va_G} {tys : List (ClassId × FieldType)} {R : Room} {kc : Nat} (C : XC p R s m args meth c cX5_add 7 (some .int) RX5 wsX5_add D tys) : CallB (rm_X5_add kc) s args RX5 75 yX5_checkEntry cX5_checkEntry 2 none wsX5_checkEntry (rm_X5_checkEntry 0) 0 0 2 ∧ (Cond.static yX5_checkEntry).before args s = true := va_cwS 2 C.2.2.2.2.1 gX5_add_X5_checkEntry rfl rfl rfl (by decide +kernel) ⟨Nat.le_of_ble_eq_true rfl, Nat.le_of_ble_eq_true rfl⟩
theorem cw_X5_add_X5_checkEntry_75_th {p : Program} {s : State} {m : MethodId} {args : Array Value} {meth : Method} {c : Code} {D : va_G} {tys : List (ClassId × FieldType)} {R : Room} {kc : Nat} {q : Nat} (C : XC p R s m args meth c cX5_add 7 (some .int) RX5 wsX5_add D tys) : CallB (rm_X5_add kc) s args RX5 75 yX5_checkEntry cX5_checkEntry 2 none wsX5_checkEntry (rm_X5_checkEntry (q + 1)) 1 6 2 ∧ (Cond.static yX5_checkEntry).before args s = true := va_cwS 2 C.2.2.2.2.1 gX5_add_X5_checkEntry rfl rfl rfl (by decide +kernel) ⟨Nat.le_of_ble_eq_true rfl, Nat.le_of_ble_eq_true rfl⟩
theorem cw_X5_add_X5_checkIndex_49 {p : Program} {s : State} {m : MethodId} {args : Array Value} {meth : Method} {c : Code} {D : va_G} {tys : List (ClassId × FieldType)} {R : Room} {kc : Nat} (C : XC p R s m args meth c cX5_add 7 (some .int) RX5 wsX5_add D tys) : CallB (rm_X5_add kc) s args RX5 49 yX5_checkIndex cX5_checkIndex 2 none wsX5_checkIndex (rm_X5_checkIndex 0) 0 0 2 ∧ (Cond.static yX5_checkIndex).before args s = true := va_cwS 2 C.2.2.2.2.1 gX5_add_X5_checkIndex rfl rfl rfl (by decide +kernel) ⟨Nat.le_of_ble_eq_true rfl, Nat.le_of_ble_eq_true rfl⟩
theorem cw_X5_add_X5_checkIndex_49_th {p : Program} {s : State} {m : MethodId} {args : Array Value} {meth : Method} {c : Code} {D : va_G} {tys : List (ClassId × FieldType)} {R : Room} {kc : Nat} {q : Nat} (C : XC p R s m args meth c cX5_add 7 (some .int) RX5 wsX5_add D tys) : CallB (rm_X5_add kc) s args RX5 49 yX5_checkIndex cX5_checkIndex 2 none wsX5_checkIndex (rm_X5_checkIndex (q + 1)) 1 6 2 ∧ (Cond.static yX5_checkIndex).before args s = true := va_cwS 2 C.2.2.2.2.1 gX5_add_X5_checkIndex rfl rfl rfl (by decide +kernel) ⟨Nat.le_of_ble_eq_true rfl, Nat.le_of_ble_eq_true rfl⟩
theorem cw_X5_add_X5_checkLabelIsFree_82 {p : Program} {s : State} {m : MethodId} {args : Array Value} {meth : Method} {c : Code} {D : va_G} {tys : List (ClassId × FieldType)} {R : Room} {kc : Nat} (C : XC p R s m args meth c cX5_add 7 (some .int) RX5 wsX5_add D tys) : CallB (rm_X5_add kc) s args RX5 82 yX5_checkLabelIsFree cX5_checkLabelIsFree 4 none wsX5_checkLabelIsFree (rm_X5_checkLabelIsFree 0) 0 0 4 ∧ (Cond.static yX5_checkLabelIsFree).before args s = true := va_cwS 4 C.2.2.2.2.1 gX5_add_X5_checkLabelIsFree rfl rfl rfl (by decide +kernel) ⟨Nat.le_of_ble_eq_true rfl, Nat.le_of_ble_eq_true rfl⟩
theorem cw_X5_add_X5_checkLabelIsFree_82_th {p : Program} {s : State} {m : MethodId} {args : Array Value} {meth : Method} {c : Code} {D : va_G} {tys : List (ClassId × FieldType)} {R : Room} {kc : Nat} {q : Nat} (C : XC p R s m args meth c cX5_add 7 (some .int) RX5 wsX5_add D tys) : CallB (rm_X5_add kc) s args RX5 82 yX5_checkLabelIsFree cX5_checkLabelIsFree 4 none wsX5_checkLabelIsFree (rm_X5_checkLabelIsFree (q + 1)) 1 6 4 ∧ (Cond.static yX5_checkLabelIsFree).before args s = true := va_cwS 4 C.2.2.2.2.1 gX5_add_X5_checkLabelIsFree rfl rfl rfl (by decide +kernel) ⟨Nat.le_of_ble_eq_true rfl, Nat.le_of_ble_eq_true rfl⟩
theorem cw_X5_add_X5_checkRoomForChange_79 {p : Program} {s : State} {m : MethodId} {args : Array Value} {meth : Method} {c : Code} {D : va_G} {tys : List (ClassId × FieldType)} {R : Room} {kc : Nat} (C : XC p R s m args meth c cX5_add 7 (some .int) RX5 wsX5_add D tys) : CallW (rm_X5_add kc) s args RX5 RX5 79 yX5_checkRoomForChange cX5_checkRoomForChange 1 none wsX5_checkRoomForChange (rm_X5_checkRoomForChange 0) 0 0 0 := cwV 0 C.2.2.2.2.1 gX5_add_X5_checkRoomForChange rfl rfl rfl (by decide +kernel) ⟨Nat.le_of_ble_eq_true rfl, Nat.le_of_ble_eq_true rfl⟩
theorem cw_X5_add_X5_checkRoomForChange_79_th {p : Program} {s : State} {m : MethodId} {args : Array Value} {meth : Method} {c : Code} {D : va_G} {tys : List (ClassId × FieldType)} {R : Room} {kc : Nat} {q : Nat} (C : XC p R s m args meth c cX5_add 7 (some .int) RX5 wsX5_add D tys) : CallW (rm_X5_add kc) s args RX5 RX5 79 yX5_checkRoomForChange cX5_checkRoomForChange 1 none wsX5_checkRoomForChange (rm_X5_checkRoomForChange (q + 1)) 1 6 0 := cwV 0 C.2.2.2.2.1 gX5_add_X5_checkRoomForChange rfl rfl rfl (by decide +kernel) ⟨Nat.le_of_ble_eq_true rfl, Nat.le_of_ble_eq_true rfl⟩
theorem cw_X5_add_X5_treeOf_71 {p : Program} {s : State} {m : MethodId} {args : Array Value} {meth : Method} {c : Code} {D : va_G} {tys : List (ClassId × FieldType)} {R : Room} {kc : Nat} (C : XC p R s m args meth c cX5_add 7 (some .int) RX5 wsX5_add D tys) : CallW (rm_X5_add kc) s args RX5 RX5 71 yX5_treeOf cX5_treeOf 2 (some (.object "EntryMasters$Tree")) wsX5_treeOf (rm_X5_treeOf 0) 0 0 1 := cwV 1 C.2.2.2.2.1 gX5_add_X5_treeOf rfl rfl rfl (by decide +kernel) ⟨Nat.le_of_ble_eq_true rfl, Nat.le_of_ble_eq_true rfl⟩
theorem cw_X5_add_X5_treeOf_71_th {p : Program} {s : State} {m : MethodId} {args : Array Value} {meth : Method} {c : Code} {D : va_G} {tys : List (ClassId × FieldType)} {R : Room} {kc : Nat} {q : Nat} (C : XC p R s m args meth c cX5_add 7 (some .int) RX5 wsX5_add D tys) : CallW (rm_X5_add kc) s args RX5 RX5 71 yX5_treeOf cX5_treeOf 2 (some (.object "EntryMasters$Tree")) wsX5_treeOf (rm_X5_treeOf (q + 1)) 1 6 1 := cwV 1 C.2.2.2.2.1 gX5_add_X5_treeOf rfl rfl rfl (by decide +kernel) ⟨Nat.le_of_ble_eq_true rfl, Nat.le_of_ble_eq_true rfl⟩
def X5_add_b73 (S : St) (x6 : Int32) : Option (Nat × Int32 × St) :=
  some (0, x6, S)
set_option maxHeartbeats 4000000 in
set_option maxRecDepth 100000 in
theorem X_X5_add_b73 {p : Program} {l : Launch} {e : Env} {s : State} {m : MethodId} {args : Array Value} {below : List Frame} {meth : Method} {c : Code} {D : va_G} {cI cZ cJ : ClassId} {ad : Nat → Nat} {rest w0 : va_W} {x y : Nat} {z : Nat × Int32 × St} (C : XC p (rm_X5_add z.1) s m args meth c cX5_add 7 (some .int) RX5 wsX5_add D (t3 cI cZ cJ)) (T : z.1 ≠ 0 → XT l s c w0) {S : St} {x6 : Int32} (h : X5_add_b73 S x6 = some z) : XW p l e (rm_X5_add z.1) s m args below meth c D w0 7 (QZ z.1 (MQ below (QI D (t3 cI cZ cJ) w0 (wE cI cZ ad z.2.2 (eo ad x y rest)) s.heap.size z.2.1) args s 0 0 (va_A w0 s.heap.size)) (fun q9 => vx_MQ below nQ (XX D (t3 cI cZ cJ) w0 (wE cI cZ ad z.2.2 (eo ad x y rest)) s.heap.size (exN q9)) args s 1 6 (va_A w0 s.heap.size))) (wE cI cZ ad S (eo ad x y rest)) 0 0 73 [(6, .int x6)] [] := by
  unfold X5_add_b73 at h
  refine x_iload C 0 dX5_add_73 rfl ?_
  obtain rfl := Option.some.inj h
  exact x_iret C (v := x6) dX5_add_75
def X5_add_b70 (S : St) (x6 s0 : Int32) : Option (Nat × Int32 × St) :=
  (X4_learn S s0).bind fun S70 => X5_add_b73 S70 x6
set_option maxHeartbeats 4000000 in
set_option maxRecDepth 100000 in
theorem X_X5_add_b70 {p : Program} {l : Launch} {e : Env} {s : State} {m : MethodId} {args : Array Value} {below : List Frame} {meth : Method} {c : Code} {D : va_G} {cI cZ cJ : ClassId} {ad : Nat → Nat} {rest w0 : va_W} {x y : Nat} {z : Nat × Int32 × St} (C : XC p (rm_X5_add z.1) s m args meth c cX5_add 7 (some .int) RX5 wsX5_add D (t3 cI cZ cJ)) (T : z.1 ≠ 0 → XT l s c w0) {S : St} {x6 s0 : Int32} (h : X5_add_b70 S x6 s0 = some z) : XW p l e (rm_X5_add z.1) s m args below meth c D w0 7 (QZ z.1 (MQ below (QI D (t3 cI cZ cJ) w0 (wE cI cZ ad z.2.2 (eo ad x y rest)) s.heap.size z.2.1) args s 0 0 (va_A w0 s.heap.size)) (fun q9 => vx_MQ below nQ (XX D (t3 cI cZ cJ) w0 (wE cI cZ ad z.2.2 (eo ad x y rest)) s.heap.size (exN q9)) args s 1 6 (va_A w0 s.heap.size))) (wE cI cZ ad S (eo ad x y rest)) 0 0 70 [(6, .int x6)] [.int s0, .ref (ad 0)] := by
  unfold X5_add_b70 at h
  obtain ⟨S70, hg70, h⟩ := ob h
  refine x_cv0 (x_runV C (As := [.int s0]) (rest := []) (c_X4_learn hg70) (cw_X5_add_X4_learn_94 C) 0 rfl rfl rfl (Nat.le_of_ble_eq_true rfl) dX5_add_70 ⟨Nat.zero_le _, Nat.zero_le _⟩) ?_
  exact X_X5_add_b73 C T h
def X5_add_b5 (S : St) (x2 x3 x4 : Int32) : Option (Nat × Int32 × St) :=
  (X5_checkEntry S x2).bind fun q10 => if q10 = 0 then ((X5_checkIndex x4 3).bind fun q16 => if q16 = 0 then ((X5_checkArgument x3 0 99).bind fun q23 => if q23 = 0 then ((X5_checkRoomForChange S).bind fun q27 => if q27 = 0 then ((X5_checkLabelIsFree S x2 x3 (-1)).bind fun q35 => if q35 = 0 then ((X4_stampOfNext S).bind fun v58 => (X2_append S 0 v58 ((S 14 6) + 2) x2 x3 x4).bind fun q67 => X5_add_b70 q67.2 ((S 14 6) + 2) q67.1) else some (q35, 0, S)) else some (q27, 0, S)) else some (q23, 0, S)) else some (q16, 0, S)) else some (q10, 0, S)
set_option maxHeartbeats 4000000 in
set_option maxRecDepth 100000 in
theorem X_X5_add_b5 {p : Program} {l : Launch} {e : Env} {s : State} {m : MethodId} {args : Array Value} {below : List Frame} {meth : Method} {c : Code} {D : va_G} {cI cZ cJ : ClassId} {ad : Nat → Nat} {rest w0 : va_W} {x y : Nat} {z : Nat × Int32 × St} (C : XC p (rm_X5_add z.1) s m args meth c cX5_add 7 (some .int) RX5 wsX5_add D (t3 cI cZ cJ)) (T : z.1 ≠ 0 → XT l s c w0) {S : St} {x2 x3 x4 : Int32} (h : X5_add_b5 S x2 x3 x4 = some z) : XW p l e (rm_X5_add z.1) s m args below meth c D w0 7 (QZ z.1 (MQ below (QI D (t3 cI cZ cJ) w0 (wE cI cZ ad z.2.2 (eo ad x y rest)) s.heap.size z.2.1) args s 0 0 (va_A w0 s.heap.size)) (fun q9 => vx_MQ below nQ (XX D (t3 cI cZ cJ) w0 (wE cI cZ ad z.2.2 (eo ad x y rest)) s.heap.size (exN q9)) args s 1 6 (va_A w0 s.heap.size))) (wE cI cZ ad S (eo ad x y rest)) 0 0 5 [(0, .ref (ad 32)), (2, .int x2), (3, .int x3), (4, .int x4)] [.ref (ad 0)] := by
  unfold X5_add_b5 at h
  refine x_astore C (lv' := [(0, .ref (ad 32)), (2, .int x2), (3, .int x3), (4, .int x4), (5, .ref (ad 0))]) dX5_add_5 (by decide) rfl ?_
  refine x_aload C 4 dX5_add_7 rfl ?_
  refine x_iload_n C 1 dX5_add_9 rfl ?_
  obtain ⟨q10, hg10, h⟩ := ob h
  cases q10 with
  | zero =>
    replace h := (if_pos (c := (0 : Nat) = 0) rfl).symm.trans h
    refine x_cv0 (x_runS C (As := [.ref (ad 0), .int x2]) (rest := []) (c_X5_checkEntry_ok hg10) (cw_X5_add_X5_checkEntry_75 C) rfl (Nat.le_of_ble_eq_true rfl) dX5_add_10 ⟨Nat.zero_le _, Nat.zero_le _⟩) ?_
    refine x_iload C 3 dX5_add_13 rfl ?_
    refine x_iconst C (v := 3) dX5_add_15 (by decide) ?_
    obtain ⟨q16, hg16, h⟩ := ob h
    cases q16 with
    | zero =>
      replace h := (if_pos (c := (0 : Nat) = 0) rfl).symm.trans h
      refine x_cv0 (x_runS C (As := [.int x4, .int 3]) (rest := []) (c_X5_checkIndex_ok hg16) (cw_X5_add_X5_checkIndex_49 C) rfl (Nat.le_of_ble_eq_true rfl) dX5_add_16 ⟨Nat.zero_le _, Nat.zero_le _⟩) ?_
      refine x_iload_n C 2 dX5_add_19 rfl ?_
      refine x_iconst C (v := 0) dX5_add_20 (by decide) ?_
      refine x_bipush C (v := 99) dX5_add_21 (by decide) ?_
      obtain ⟨q23, hg23, h⟩ := ob h
      cases q23 with
      | zero =>
        replace h := (if_pos (c := (0 : Nat) = 0) rfl).symm.trans h
        refine x_cv0 (x_runS C (As := [.int x3, .int 0, .int 99]) (rest := []) (c_X5_checkArgument_ok hg23) (cw_X5_add_X5_checkArgument_53 C) rfl (Nat.le_of_ble_eq_true rfl) dX5_add_23 ⟨Nat.zero_le _, Nat.zero_le _⟩) ?_
        refine x_aload_n C 0 dX5_add_26 rfl ?_
        obtain ⟨q27, hg27, h⟩ := ob h
        cases q27 with
        | zero =>
          replace h := (if_pos (c := (0 : Nat) = 0) rfl).symm.trans h
          refine x_cv0 (x_runV C (As := []) (rest := []) (c_X5_checkRoomForChange_ok hg27) (cw_X5_add_X5_checkRoomForChange_79 C) 32 rfl rfl rfl (Nat.le_of_ble_eq_true rfl) dX5_add_27 ⟨Nat.zero_le _, Nat.zero_le _⟩) ?_
          refine x_aload C 4 dX5_add_30 rfl ?_
          refine x_iload_n C 1 dX5_add_32 rfl ?_
          refine x_iload_n C 2 dX5_add_33 rfl ?_
          refine x_iconst C (v := (-1)) dX5_add_34 (by decide) ?_
          obtain ⟨q35, hg35, h⟩ := ob h
          cases q35 with
          | zero =>
            replace h := (if_pos (c := (0 : Nat) = 0) rfl).symm.trans h
            refine x_cv0 (x_runS C (As := [.ref (ad 0), .int x2, .int x3, .int (-1)]) (rest := []) (c_X5_checkLabelIsFree_ok hg35) (cw_X5_add_X5_checkLabelIsFree_82 C) rfl (Nat.le_of_ble_eq_true rfl) dX5_add_35 ⟨Nat.zero_le _, Nat.zero_le _⟩) ?_
            refine x_aload_n C 0 dX5_add_38 rfl ?_
            refine x_get C (R' := RX5) (T := TX5) (N := 6) (ci := 5) 32 1 rfl rfl (by decide) rfl rfl hi_X5_add_5 lk_X5_add_19 dX5_add_39 ?_
            refine x_getN C (R' := RX2) (T := TX2) (N := 7) (ci := 2) 14 6 rfl rfl (by decide) rfl rfl hi_X5_add_2 (nf_mem 2 rfl) dX5_add_42 ?_
            refine x_iconst C (v := 2) dX5_add_45 (by decide) ?_
            refine x_iadd C dX5_add_46 ?_
            refine x_istore C (lv' := [(0, .ref (ad 32)), (2, .int x2), (3, .int x3), (4, .int x4), (5, .ref (ad 0)), (6, .int ((S 14 6) + 2))]) dX5_add_47 (by decide) rfl ?_
            refine x_aload C 4 dX5_add_49 rfl ?_
            refine x_aload_n C 0 dX5_add_51 rfl ?_
            refine x_get C (R' := RX5) (T := TX5) (N := 6) (ci := 5) 32 1 rfl rfl (by decide) rfl rfl hi_X5_add_5 lk_X5_add_19 dX5_add_52 ?_
            refine x_iconst C (v := 0) dX5_add_55 (by decide) ?_
            refine x_aload C 4 dX5_add_56 rfl ?_
            obtain ⟨v58, hg58, h⟩ := ob h
            refine x_ci0 (x_runV C (As := []) (rest := [.int 0, .ref (ad 14), .ref (ad 0)]) (c_X4_stampOfNext hg58) (cw_X5_add_X4_stampOfNext_86 C) 0 rfl rfl rfl (Nat.le_of_ble_eq_true rfl) dX5_add_58 ⟨Nat.zero_le _, Nat.zero_le _⟩) ?_
            refine x_iload C 5 dX5_add_61 rfl ?_
            refine x_iload_n C 1 dX5_add_63 rfl ?_
            refine x_iload_n C 2 dX5_add_64 rfl ?_
            refine x_iload C 3 dX5_add_65 rfl ?_
            obtain ⟨⟨v67, S67⟩, hg67, h⟩ := ob h
            refine x_ci0 (x_runV C (As := [.int 0, .int v58, .int ((S 14 6) + 2), .int x2, .int x3, .int x4]) (rest := [.ref (ad 0)]) (c_X2_append hg67) (cw_X5_add_X2_append_90 C) 14 rfl rfl rfl (Nat.le_of_ble_eq_true rfl) dX5_add_67 ⟨Nat.zero_le _, Nat.zero_le _⟩) ?_
            refine x_locals (lv' := [(6, .int ((S 14 6) + 2))]) [5] rfl ?_
            exact X_X5_add_b70 C T h
          | succ q35 =>
            replace h := (if_neg (Nat.succ_ne_zero q35)).symm.trans h
            obtain rfl := Option.some.inj h
            exact x_cx C (T (Nat.succ_ne_zero _)) (x_runSX C (T (Nat.succ_ne_zero _)).2.2 (As := [.ref (ad 0), .int x2, .int x3, .int (-1)]) (rest := []) (c_X5_checkLabelIsFree_th (T (Nat.succ_ne_zero _)).1 hg35) (cw_X5_add_X5_checkLabelIsFree_82_th C) rfl (Nat.le_of_ble_eq_true rfl) dX5_add_35 ⟨Nat.le_refl _, Nat.le_refl _⟩)
        | succ q27 =>
          replace h := (if_neg (Nat.succ_ne_zero q27)).symm.trans h
          obtain rfl := Option.some.inj h
          exact x_cx C (T (Nat.succ_ne_zero _)) (x_runVX C (T (Nat.succ_ne_zero _)).2.2 (As := []) (rest := []) (c_X5_checkRoomForChange_th (T (Nat.succ_ne_zero _)).1 hg27) (cw_X5_add_X5_checkRoomForChange_79_th C) 32 rfl rfl rfl (Nat.le_of_ble_eq_true rfl) dX5_add_27 ⟨Nat.le_refl _, Nat.le_refl _⟩)
      | succ q23 =>
        replace h := (if_neg (Nat.succ_ne_zero q23)).symm.trans h
        obtain rfl := Option.some.inj h
        exact x_cx C (T (Nat.succ_ne_zero _)) (x_runSX C (T (Nat.succ_ne_zero _)).2.2 (As := [.int x3, .int 0, .int 99]) (rest := []) (c_X5_checkArgument_th (T (Nat.succ_ne_zero _)).1 hg23) (cw_X5_add_X5_checkArgument_53_th C) rfl (Nat.le_of_ble_eq_true rfl) dX5_add_23 ⟨Nat.le_refl _, Nat.le_refl _⟩)
    | succ q16 =>
      replace h := (if_neg (Nat.succ_ne_zero q16)).symm.trans h
      obtain rfl := Option.some.inj h
      exact x_cx C (T (Nat.succ_ne_zero _)) (x_runSX C (T (Nat.succ_ne_zero _)).2.2 (As := [.int x4, .int 3]) (rest := []) (c_X5_checkIndex_th (T (Nat.succ_ne_zero _)).1 hg16) (cw_X5_add_X5_checkIndex_49_th C) rfl (Nat.le_of_ble_eq_true rfl) dX5_add_16 ⟨Nat.le_refl _, Nat.le_refl _⟩)
  | succ q10 =>
    replace h := (if_neg (Nat.succ_ne_zero q10)).symm.trans h
    obtain rfl := Option.some.inj h
    exact x_cx C (T (Nat.succ_ne_zero _)) (x_runSX C (T (Nat.succ_ne_zero _)).2.2 (As := [.ref (ad 0), .int x2]) (rest := []) (c_X5_checkEntry_th (T (Nat.succ_ne_zero _)).1 hg10) (cw_X5_add_X5_checkEntry_75_th C) rfl (Nat.le_of_ble_eq_true rfl) dX5_add_10 ⟨Nat.le_refl _, Nat.le_refl _⟩)
def X5_add (S : St) (x1 x2 x3 x4 : Int32) : Option (Nat × Int32 × St) :=
  (X5_treeOf S x1).bind fun q2 => if q2.1 = 0 then (bif q2.2 then ((X5_add_b5 (swS S) x2 x3 x4).map unz) else (X5_add_b5 S x2 x3 x4)) else some (q2.1, 0, S)
set_option maxHeartbeats 4000000 in
set_option maxRecDepth 100000 in
theorem X_X5_add {p : Program} {l : Launch} {e : Env} {s : State} {m : MethodId} {args : Array Value} {below : List Frame} {meth : Method} {c : Code} {D : va_G} {cI cZ cJ : ClassId} {ad : Nat → Nat} {rest w0 : va_W} {z : Nat × Int32 × St} (C : XC p (rm_X5_add z.1) s m args meth c cX5_add 7 (some .int) RX5 wsX5_add D (t3 cI cZ cJ)) (T : z.1 ≠ 0 → XT l s c w0) {S : St} {x1 x2 x3 x4 : Int32} (h : X5_add S x1 x2 x3 x4 = some z) : XW p l e (rm_X5_add z.1) s m args below meth c D w0 7 (QZ z.1 (MQ below (QI D (t3 cI cZ cJ) w0 (wE cI cZ ad z.2.2 (eo ad (ad 0) (ad 7) rest)) s.heap.size z.2.1) args s 0 0 (va_A w0 s.heap.size)) (fun q9 => vx_MQ below nQ (XX D (t3 cI cZ cJ) w0 (wE cI cZ ad z.2.2 (eo ad (ad 0) (ad 7) rest)) s.heap.size (exN q9)) args s 1 6 (va_A w0 s.heap.size))) (wE cI cZ ad S (eo ad (ad 0) (ad 7) rest)) 0 0 0 [(0, .ref (ad 32)), (1, .int x1), (2, .int x2), (3, .int x3), (4, .int x4)] [] := by
  unfold X5_add at h
  refine x_aload_n C 0 dX5_add_0 rfl ?_
  refine x_iload_n C 1 dX5_add_1 rfl ?_
  obtain ⟨⟨q2, b2⟩, hg2, h⟩ := ob h
  cases q2 with
  | zero =>
    replace h := (if_pos (c := (0 : Nat) = 0) rfl).symm.trans h
    refine x_cr0 (x_runV C (As := [.int x1]) (rest := []) (c_X5_treeOf_ok hg2) (cw_X5_add_X5_treeOf_71 C) 32 rfl rfl rfl (Nat.le_of_ble_eq_true rfl) dX5_add_2 ⟨Nat.zero_le _, Nat.zero_le _⟩) ?_
    refine x_locals (lv' := [(0, .ref (ad 32)), (2, .int x2), (3, .int x3), (4, .int x4)]) [0, 2, 3, 4] rfl ?_
    cases b2 with
    | false => exact X_X5_add_b5 (x := ad 0) (y := ad 7) C T h
    | true =>
      refine x_world (w' := wE cI cZ (swA ad) (swS S) (eo (swA ad) (ad 0) (ad 7) rest)) (wl_sw (D := D)).1 ((wl_sw (D := D)).2 _) ?_
      obtain ⟨z9, hz9, hz8⟩ := Option.map_eq_some_iff.mp h
      subst hz8
      exact x_mono (QZI.mono wl_unsw) (X_X5_add_b5 (ad := swA ad) (x := ad 0) (y := ad 7) (z := z9) C T hz9)
  | succ q2 =>
    replace h := (if_neg (Nat.succ_ne_zero q2)).symm.trans h
    obtain rfl := Option.some.inj h
    exact x_cx C (T (Nat.succ_ne_zero _)) (x_runVX C (T (Nat.succ_ne_zero _)).2.2 (As := [.int x1]) (rest := []) (c_X5_treeOf_th (T (Nat.succ_ne_zero _)).1 hg2) (cw_X5_add_X5_treeOf_71_th C) 32 rfl rfl rfl (Nat.le_of_ble_eq_true rfl) dX5_add_2 ⟨Nat.le_refl _, Nat.le_refl _⟩)
set_option maxRecDepth 100000 in
theorem c_X5_add_ok {l : Launch} {D : va_G} {cI cZ cJ : ClassId} {ad : Nat → Nat} {S : St} {rest : va_W} {x1 x2 x3 x4 : Int32} {v : Int32} {S' : St} (h : X5_add S x1 x2 x3 x4 = some (0, v, S')) : ∀ sz, Met l yX5_add wsX5_add (rm_X5_add 0) (PC D (t3 cI cZ cJ) [.ref (ad 32), .int x1, .int x2, .int x3, .int x4] (wE cI cZ ad S (eo ad (ad 0) (ad 7) rest)) sz) (QI D (t3 cI cZ cJ) (wE cI cZ ad S (eo ad (ad 0) (ad 7) rest)) (wE cI cZ ad S' (eo ad (ad 0) (ad 7) rest)) sz v) 0 0 (va_A (wE cI cZ ad S (eo ad (ad 0) (ad 7) rest)) sz) := by
  refine x_met (Qc := fun sz => QI D (t3 cI cZ cJ) (wE cI cZ ad S (eo ad (ad 0) (ad 7) rest)) (wE cI cZ ad S' (eo ad (ad 0) (ad 7) rest)) sz v) RX5 rfl (by decide) rfl (Nat.le_of_ble_eq_true rfl) (fun p e s m args below meth c C => ?_)
  exact X_X5_add (z := (0, v, S')) C (fun h9 => (h9 rfl).elim) h
set_option maxRecDepth 100000 in
theorem c_X5_add_th {l : Launch} {D : va_G} {cI cZ cJ : ClassId} {ad : Nat → Nat} {S : St} {rest : va_W} {x1 x2 x3 x4 : Int32} {v : Int32} {S' : St} {q : Nat} (hfl : l.stackTraces = false) (h : X5_add S x1 x2 x3 x4 = some ((q + 1), v, S')) : ∀ sz, vx_Met l yX5_add wsX5_add (rm_X5_add (q + 1)) (PX D (t3 cI cZ cJ) [.ref (ad 32), .int x1, .int x2, .int x3, .int x4] (wE cI cZ ad S (eo ad (ad 0) (ad 7) rest)) sz) nQ (XX D (t3 cI cZ cJ) (wE cI cZ ad S (eo ad (ad 0) (ad 7) rest)) (wE cI cZ ad S' (eo ad (ad 0) (ad 7) rest)) sz (exN q)) 1 6 (va_A (wE cI cZ ad S (eo ad (ad 0) (ad 7) rest)) sz) := by
  refine x_metX hfl (XCf := fun sz => XX D (t3 cI cZ cJ) (wE cI cZ ad S (eo ad (ad 0) (ad 7) rest)) (wE cI cZ ad S' (eo ad (ad 0) (ad 7) rest)) sz (exN q)) RX5 rfl (by decide) rfl (Nat.le_of_ble_eq_true rfl) (fun p e s m args below meth c C T => ?_)
  exact X_X5_add (z := (q + 1, v, S')) C (fun _ => T) h
/-! EntryMasters.set(IIII)I -/
abbrev rm_X5_set (kc : Nat) : Room := rmf 8 138 kc
theorem thr_X5_set_2_k : Cond.classLink RX5 61 (exN 2) ∈ wsX5_set := by decide +kernel
theorem thr_X5_set_2_i : Cond.initialized (exN 2) ∈ wsX5_set := by decide +kernel
theorem thr_X5_set_2_a : ∀ z ∈ (vx_atS RX5 65 (exN 2) ["java/lang/RuntimeException", "java/lang/Exception"]).filter goodWord, z ∈ wsX5_set := by decide +kernel
theorem thr_X5_set_2_b : ∀ z ∈ (vx_atS RX5 65 (exN 2) ["java/lang/RuntimeException", "java/lang/Exception"]).filter (fun z => !goodWord z), z ∈ [Cond.castable (exN 2) (exN 2), Cond.declares (Bundle.initS (deN 0)), Cond.declares (Bundle.initS (deN 1)), Cond.declares (Bundle.initS (deN 2))] := by decide +kernel
theorem thr_X5_set_2_g : ∀ z ∈ Cond.classLink RX5 61 (exN 2) :: Cond.initialized (exN 2) :: vx_atS RX5 65 (exN 2) ["java/lang/RuntimeException", "java/lang/Exception"], vx_ot z = true := by decide +kernel
theorem hi_X5_set_5 : ∀ z ∈ u_ws RX5 TX5 6, z ∈ wsX5_set := by decide +kernel
theorem lk_X5_set_19 : Cond.fieldLink RX5 19 RX5 "log" "LEntryMasters$Log;" ∈ wsX5_set := by decide +kernel
theorem cw_X5_set_X2_append_90 {p : Program} {s : State} {m : MethodId} {args : Array Value} {meth : Method} {c : Code} {D : va_G} {tys : List (ClassId × FieldType)} {R : Room} {kc : Nat} (C : XC p R s m args meth c cX5_set 7 (some .int) RX5 wsX5_set D tys) : CallW (rm_X5_set kc) s args RX5 RX2 90 yX2_append cX2_append 8 (some .int) wsX2_append rm_X2_append 0 0 6 := cwV 6 C.2.2.2.2.1 gX5_set_X2_append rfl rfl rfl (by decide +kernel) ⟨Nat.le_of_ble_eq_true rfl, Nat.le_of_ble_eq_true rfl⟩
theorem cw_X5_set_X4_learn_94 {p : Program} {s : State} {m : MethodId} {args : Array Value} {meth : Method} {c : Code} {D : va_G} {tys : List (ClassId × FieldType)} {R : Room} {kc : Nat} (C : XC p R s m args meth c cX5_set 7 (some .int) RX5 wsX5_set D tys) : CallW (rm_X5_set kc) s args RX5 RX4 94 yX4_learn cX4_learn 3 none wsX4_learn rm_X4_learn 0 0 1 := cwV 1 C.2.2.2.2.1 gX5_set_X4_learn rfl rfl rfl (by decide +kernel) ⟨Nat.le_of_ble_eq_true rfl, Nat.le_of_ble_eq_true rfl⟩
theorem cw_X5_set_X4_mayHold_98 {p : Program} {s : State} {m : MethodId} {args : Array Value} {meth : Method} {c : Code} {D : va_G} {tys : List (ClassId × FieldType)} {R : Room} {kc : Nat} (C : XC p R s m args meth c cX5_set 7 (some .int) RX5 wsX5_set D tys) : CallW (rm_X5_set kc) s args RX5 RX4 98 yX4_mayHold cX4_mayHold 3 (some .boolean) wsX4_mayHold rm_X4_mayHold 0 0 2 := cwV 2 C.2.2.2.2.1 gX5_set_X4_mayHold rfl rfl rfl (by decide +kernel) ⟨Nat.le_of_ble_eq_true rfl, Nat.le_of_ble_eq_true rfl⟩
theorem cw_X5_set_X4_stampOfNext_86 {p : Program} {s : State} {m : MethodId} {args : Array Value} {meth : Method} {c : Code} {D : va_G} {tys : List (ClassId × FieldType)} {R : Room} {kc : Nat} (C : XC p R s m args meth c cX5_set 7 (some .int) RX5 wsX5_set D tys) : CallW (rm_X5_set kc) s args RX5 RX4 86 yX4_stampOfNext cX4_stampOfNext 2 (some .int) wsX4_stampOfNext rm_X4_stampOfNext 0 0 0 := cwV 0 C.2.2.2.2.1 gX5_set_X4_stampOfNext rfl rfl rfl (by decide +kernel) ⟨Nat.le_of_ble_eq_true rfl, Nat.le_of_ble_eq_true rfl⟩
theorem cw_X5_set_X4_valueAt_104 {p : Program} {s : State} {m : MethodId} {args : Array Value} {meth : Method} {c : Code} {D : va_G} {tys : List (ClassId × FieldType)} {R : Room} {kc : Nat} (C : XC p R s m args meth c cX5_set 7 (some .int) RX5 wsX5_set D tys) : CallW (rm_X5_set kc) s args RX5 RX4 104 yX4_valueAt cX4_valueAt 3 (some .int) wsX4_valueAt rm_X4_valueAt 0 0 2 := cwV 2 C.2.2.2.2.1 gX5_set_X4_valueAt rfl rfl rfl (by decide +kernel) ⟨Nat.le_of_ble_eq_true rfl, Nat.le_of_ble_eq_true rfl⟩
theorem cw_X5_set_X5_checkArgument_53 {p : Program} {s : State} {m : MethodId} {args : Array Value} {meth : Method} {c : Code} {D : va_G} {tys : List (ClassId × FieldType)} {R : Room} {kc : Nat} (C : XC p R s m args meth c cX5_set 7 (some .int) RX5 wsX5_set D tys) : CallB (rm_X5_set kc) s args RX5 53 yX5_checkArgument cX5_checkArgument 3 none wsX5_checkArgument (rm_X5_checkArgument 0) 0 0 3 ∧ (Cond.static yX5_checkArgument).before args s = true := va_cwS 3 C.2.2.2.2.1 gX5_set_X5_checkArgument rfl rfl rfl (by decide +kernel) ⟨Nat.le_of_ble_eq_true rfl, Nat.le_of_ble_eq_true rfl⟩
theorem cw_X5_set_X5_checkArgument_53_th {p : Program} {s : State} {m : MethodId} {args : Array Value} {meth : Method} {c : Code} {D : va_G} {tys : List (ClassId × FieldType)} {R : Room} {kc : Nat} {q : Nat} (C : XC p R s m args meth c cX5_set 7 (some .int) RX5 wsX5_set D tys) : CallB (rm_X5_set kc) s args RX5 53 yX5_checkArgument cX5_checkArgument 3 none wsX5_checkArgument (rm_X5_checkArgument (q + 1)) 1 6 3 ∧ (Cond.static yX5_checkArgument).before args s = true := va_cwS 3 C.2.2.2.2.1 gX5_set_X5_checkArgument rfl rfl rfl (by decide +kernel) ⟨Nat.le_of_ble_eq_true rfl, Nat.le_of_ble_eq_true rfl⟩
theorem cw_X5_set_X5_checkEntry_75 {p : Program} {s : State} {m : MethodId} {args : Array Value} {meth : Method} {c : Code} {D : va_G} {tys : List (ClassId × FieldType)} {R : Room} {kc : Nat} (C : XC p R s m args meth c cX5_set 7 (some .int) RX5 wsX5_set D tys) : CallB (rm_X5_set kc) s args RX5 75 yX5_checkEntry cX5_checkEntry 2 none wsX5_checkEntry (rm_X5_checkEntry 0) 0 0 2 ∧ (Cond.static yX5_checkEntry).before args s = true := va_cwS 2 C.2.2.2.2.1 gX5_set_X5_checkEntry rfl rfl rfl (by decide +kernel) ⟨Nat.le_of_ble_eq_true rfl, Nat.le_of_ble_eq_true rfl⟩
theorem cw_X5_set_X5_checkEntry_75_th {p : Program} {s : State} {m : MethodId} {args : Array Value} {meth : Method} {c : Code} {D : va_G} {tys : List (ClassId × FieldType)} {R : Room} {kc : Nat} {q : Nat} (C : XC p R s m args meth c cX5_set 7 (some .int) RX5 wsX5_set D tys) : CallB (rm_X5_set kc) s args RX5 75 yX5_checkEntry cX5_checkEntry 2 none wsX5_checkEntry (rm_X5_checkEntry (q + 1)) 1 6 2 ∧ (Cond.static yX5_checkEntry).before args s = true := va_cwS 2 C.2.2.2.2.1 gX5_set_X5_checkEntry rfl rfl rfl (by decide +kernel) ⟨Nat.le_of_ble_eq_true rfl, Nat.le_of_ble_eq_true rfl⟩
theorem cw_X5_set_X5_checkIndex_49 {p : Program} {s : State} {m : MethodId} {args : Array Value} {meth : Method} {c : Code} {D : va_G} {tys : List (ClassId × FieldType)} {R : Room} {kc : Nat} (C : XC p R s m args meth c cX5_set 7 (some .int) RX5 wsX5_set D tys) : CallB (rm_X5_set kc) s args RX5 49 yX5_checkIndex cX5_checkIndex 2 none wsX5_checkIndex (rm_X5_checkIndex 0) 0 0 2 ∧ (Cond.static yX5_checkIndex).before args s = true := va_cwS 2 C.2.2.2.2.1 gX5_set_X5_checkIndex rfl rfl rfl (by decide +kernel) ⟨Nat.le_of_ble_eq_true rfl, Nat.le_of_ble_eq_true rfl⟩
theorem cw_X5_set_X5_checkIndex_49_th {p : Program} {s : State} {m : MethodId} {args : Array Value} {meth : Method} {c : Code} {D : va_G} {tys : List (ClassId × FieldType)} {R : Room} {kc : Nat} {q : Nat} (C : XC p R s m args meth c cX5_set 7 (some .int) RX5 wsX5_set D tys) : CallB (rm_X5_set kc) s args RX5 49 yX5_checkIndex cX5_checkIndex 2 none wsX5_checkIndex (rm_X5_checkIndex (q + 1)) 1 6 2 ∧ (Cond.static yX5_checkIndex).before args s = true := va_cwS 2 C.2.2.2.2.1 gX5_set_X5_checkIndex rfl rfl rfl (by decide +kernel) ⟨Nat.le_of_ble_eq_true rfl, Nat.le_of_ble_eq_true rfl⟩
theorem cw_X5_set_X5_checkRoomForChange_79 {p : Program} {s : State} {m : MethodId} {args : Array Value} {meth : Method} {c : Code} {D : va_G} {tys : List (ClassId × FieldType)} {R : Room} {kc : Nat} (C : XC p R s m args meth c cX5_set 7 (some .int) RX5 wsX5_set D tys) : CallW (rm_X5_set kc) s args RX5 RX5 79 yX5_checkRoomForChange cX5_checkRoomForChange 1 none wsX5_checkRoomForChange (rm_X5_checkRoomForChange 0) 0 0 0 := cwV 0 C.2.2.2.2.1 gX5_set_X5_checkRoomForChange rfl rfl rfl (by decide +kernel) ⟨Nat.le_of_ble_eq_true rfl, Nat.le_of_ble_eq_true rfl⟩
theorem cw_X5_set_X5_checkRoomForChange_79_th {p : Program} {s : State} {m : MethodId} {args : Array Value} {meth : Method} {c : Code} {D : va_G} {tys : List (ClassId × FieldType)} {R : Room} {kc : Nat} {q : Nat} (C : XC p R s m args meth c cX5_set 7 (some .int) RX5 wsX5_set D tys) : CallW (rm_X5_set kc) s args RX5 RX5 79 yX5_checkRoomForChange cX5_checkRoomForChange 1 none wsX5_checkRoomForChange (rm_X5_checkRoomForChange (q + 1)) 1 6 0 := cwV 0 C.2.2.2.2.1 gX5_set_X5_checkRoomForChange rfl rfl rfl (by decide +kernel) ⟨Nat.le_of_ble_eq_true rfl, Nat.le_of_ble_eq_true rfl⟩
theorem cw_X5_set_X5_treeOf_71 {p : Program} {s : State} {m : MethodId} {args : Array Value} {meth : Method} {c : Code} {D : va_G} {tys : List (ClassId × FieldType)} {R : Room} {kc : Nat} (C : XC p R s m args meth c cX5_set 7 (some .int) RX5 wsX5_set D tys) : CallW (rm_X5_set kc) s args RX5 RX5 71 yX5_treeOf cX5_treeOf 2 (some (.object "EntryMasters$Tree")) wsX5_treeOf (rm_X5_treeOf 0) 0 0 1 := cwV 1 C.2.2.2.2.1 gX5_set_X5_treeOf rfl rfl rfl (by decide +kernel) ⟨Nat.le_of_ble_eq_true rfl, Nat.le_of_ble_eq_true rfl⟩
theorem cw_X5_set_X5_treeOf_71_th {p : Program} {s : State} {m : MethodId} {args : Array Value} {meth : Method} {c : Code} {D : va_G} {tys : List (ClassId × FieldType)} {R : Room} {kc : Nat} {q : Nat} (C : XC p R s m args meth c cX5_set 7 (some .int) RX5 wsX5_set D tys) : CallW (rm_X5_set kc) s args RX5 RX5 71 yX5_treeOf cX5_treeOf 2 (some (.object "EntryMasters$Tree")) wsX5_treeOf (rm_X5_treeOf (q + 1)) 1 6 1 := cwV 1 C.2.2.2.2.1 gX5_set_X5_treeOf rfl rfl rfl (by decide +kernel) ⟨Nat.le_of_ble_eq_true rfl, Nat.le_of_ble_eq_true rfl⟩
def X5_set_b82 (S : St) (x6 : Int32) : Option (Nat × Int32 × St) :=
  some (0, x6, S)
set_option maxHeartbeats 4000000 in
set_option maxRecDepth 100000 in
theorem X_X5_set_b82 {p : Program} {l : Launch} {e : Env} {s : State} {m : MethodId} {args : Array Value} {below : List Frame} {meth : Method} {c : Code} {D : va_G} {cI cZ cJ : ClassId} {ad : Nat → Nat} {rest w0 : va_W} {x y : Nat} {z : Nat × Int32 × St} (C : XC p (rm_X5_set z.1) s m args meth c cX5_set 7 (some .int) RX5 wsX5_set D (t3 cI cZ cJ)) (T : z.1 ≠ 0 → XT l s c w0) {S : St} {x6 : Int32} (h : X5_set_b82 S x6 = some z) : XW p l e (rm_X5_set z.1) s m args below meth c D w0 7 (QZ z.1 (MQ below (QI D (t3 cI cZ cJ) w0 (wE cI cZ ad z.2.2 (eo ad x y rest)) s.heap.size z.2.1) args s 0 0 (va_A w0 s.heap.size)) (fun q9 => vx_MQ below nQ (XX D (t3 cI cZ cJ) w0 (wE cI cZ ad z.2.2 (eo ad x y rest)) s.heap.size (exN q9)) args s 1 6 (va_A w0 s.heap.size))) (wE cI cZ ad S (eo ad x y rest)) 0 0 82 [(6, .int x6)] [] := by
  unfold X5_set_b82 at h
  refine x_iload C 0 dX5_set_82 rfl ?_
  obtain rfl := Option.some.inj h
  exact x_iret C (v := x6) dX5_set_84
def X5_set_b79 (S : St) (x6 s0 : Int32) : Option (Nat × Int32 × St) :=
  (X4_learn S s0).bind fun S79 => X5_set_b82 S79 x6
set_option maxHeartbeats 4000000 in
set_option maxRecDepth 100000 in
theorem X_X5_set_b79 {p : Program} {l : Launch} {e : Env} {s : State} {m : MethodId} {args : Array Value} {below : List Frame} {meth : Method} {c : Code} {D : va_G} {cI cZ cJ : ClassId} {ad : Nat → Nat} {rest w0 : va_W} {x y : Nat} {z : Nat × Int32 × St} (C : XC p (rm_X5_set z.1) s m args meth c cX5_set 7 (some .int) RX5 wsX5_set D (t3 cI cZ cJ)) (T : z.1 ≠ 0 → XT l s c w0) {S : St} {x6 s0 : Int32} (h : X5_set_b79 S x6 s0 = some z) : XW p l e (rm_X5_set z.1) s m args below meth c D w0 7 (QZ z.1 (MQ below (QI D (t3 cI cZ cJ) w0 (wE cI cZ ad z.2.2 (eo ad x y rest)) s.heap.size z.2.1) args s 0 0 (va_A w0 s.heap.size)) (fun q9 => vx_MQ below nQ (XX D (t3 cI cZ cJ) w0 (wE cI cZ ad z.2.2 (eo ad x y rest)) s.heap.size (exN q9)) args s 1 6 (va_A w0 s.heap.size))) (wE cI cZ ad S (eo ad x y rest)) 0 0 79 [(6, .int x6)] [.int s0, .ref (ad 0)] := by
  unfold X5_set_b79 at h
  obtain ⟨S79, hg79, h⟩ := ob h
  refine x_cv0 (x_runV C (As := [.int s0]) (rest := []) (c_X4_learn hg79) (cw_X5_set_X4_learn_94 C) 0 rfl rfl rfl (Nat.le_of_ble_eq_true rfl) dX5_set_79 ⟨Nat.zero_le _, Nat.zero_le _⟩) ?_
  exact X_X5_set_b82 C T h
def X5_set_b5 (S : St) (x2 x3 x4 : Int32) : Option (Nat × Int32 × St) :=
  (X5_checkEntry S x2).bind fun q10 => if q10 = 0 then ((X5_checkIndex x3 4).bind fun q15 => if q15 = 0 then ((X5_checkArgument x4 (-1) 9).bind fun q23 => if q23 = 0 then ((X5_checkRoomForChange S).bind fun q27 => if q27 = 0 then ((X4_mayHold S x2 x3).bind fun v34 => if v34 = 0 then (some (3, 0, S)) else ((X4_valueAt S x2 x3).bind fun v54 => (X4_stampOfNext S).bind fun v68 => (X2_append S 1 v68 x2 x3 x4 (-1)).bind fun q76 => X5_set_b79 q76.2 v54 q76.1)) else some (q27, 0, S)) else some (q23, 0, S)) else some (q15, 0, S)) else some (q10, 0, S)
set_option maxHeartbeats 4000000 in
set_option maxRecDepth 100000 in
theorem X_X5_set_b5 {p : Program} {l : Launch} {e : Env} {s : State} {m : MethodId} {args : Array Value} {below : List Frame} {meth : Method} {c : Code} {D : va_G} {cI cZ cJ : ClassId} {ad : Nat → Nat} {rest w0 : va_W} {x y : Nat} {z : Nat × Int32 × St} (C : XC p (rm_X5_set z.1) s m args meth c cX5_set 7 (some .int) RX5 wsX5_set D (t3 cI cZ cJ)) (T : z.1 ≠ 0 → XT l s c w0) {S : St} {x2 x3 x4 : Int32} (h : X5_set_b5 S x2 x3 x4 = some z) : XW p l e (rm_X5_set z.1) s m args below meth c D w0 7 (QZ z.1 (MQ below (QI D (t3 cI cZ cJ) w0 (wE cI cZ ad z.2.2 (eo ad x y rest)) s.heap.size z.2.1) args s 0 0 (va_A w0 s.heap.size)) (fun q9 => vx_MQ below nQ (XX D (t3 cI cZ cJ) w0 (wE cI cZ ad z.2.2 (eo ad x y rest)) s.heap.size (exN q9)) args s 1 6 (va_A w0 s.heap.size))) (wE cI cZ ad S (eo ad x y rest)) 0 0 5 [(0, .ref (ad 32)), (2, .int x2), (3, .int x3), (4, .int x4)] [.ref (ad 0)] := by
  unfold X5_set_b5 at h
  refine x_astore C (lv' := [(0, .ref (ad 32)), (2, .int x2), (3, .int x3), (4, .int x4), (5, .ref (ad 0))]) dX5_set_5 (by decide) rfl ?_
  refine x_aload C 4 dX5_set_7 rfl ?_
  refine x_iload_n C 1 dX5_set_9 rfl ?_
  obtain ⟨q10, hg10, h⟩ := ob h
  cases q10 with
  | zero =>
    replace h := (if_pos (c := (0 : Nat) = 0) rfl).symm.trans h
    refine x_cv0 (x_runS C (As := [.ref (ad 0), .int x2]) (rest := []) (c_X5_checkEntry_ok hg10) (cw_X5_set_X5_checkEntry_75 C) rfl (Nat.le_of_ble_eq_true rfl) dX5_set_10 ⟨Nat.zero_le _, Nat.zero_le _⟩) ?_
    refine x_iload_n C 2 dX5_set_13 rfl ?_
    refine x_iconst C (v := 4) dX5_set_14 (by decide) ?_
    obtain ⟨q15, hg15, h⟩ := ob h
    cases q15 with
    | zero =>
      replace h := (if_pos (c := (0 : Nat) = 0) rfl).symm.trans h
      refine x_cv0 (x_runS C (As := [.int x3, .int 4]) (rest := []) (c_X5_checkIndex_ok hg15) (cw_X5_set_X5_checkIndex_49 C) rfl (Nat.le_of_ble_eq_true rfl) dX5_set_15 ⟨Nat.zero_le _, Nat.zero_le _⟩) ?_
      refine x_iload C 3 dX5_set_18 rfl ?_
      refine x_iconst C (v := (-1)) dX5_set_20 (by decide) ?_
      refine x_bipush C (v := 9) dX5_set_21 (by decide) ?_
      obtain ⟨q23, hg23, h⟩ := ob h
      cases q23 with
      | zero =>
        replace h := (if_pos (c := (0 : Nat) = 0) rfl).symm.trans h
        refine x_cv0 (x_runS C (As := [.int x4, .int (-1), .int 9]) (rest := []) (c_X5_checkArgument_ok hg23) (cw_X5_set_X5_checkArgument_53 C) rfl (Nat.le_of_ble_eq_true rfl) dX5_set_23 ⟨Nat.zero_le _, Nat.zero_le _⟩) ?_
        refine x_aload_n C 0 dX5_set_26 rfl ?_
        obtain ⟨q27, hg27, h⟩ := ob h
        cases q27 with
        | zero =>
          replace h := (if_pos (c := (0 : Nat) = 0) rfl).symm.trans h
          refine x_cv0 (x_runV C (As := []) (rest := []) (c_X5_checkRoomForChange_ok hg27) (cw_X5_set_X5_checkRoomForChange_79 C) 32 rfl rfl rfl (Nat.le_of_ble_eq_true rfl) dX5_set_27 ⟨Nat.zero_le _, Nat.zero_le _⟩) ?_
          refine x_aload C 4 dX5_set_30 rfl ?_
          refine x_iload_n C 1 dX5_set_32 rfl ?_
          refine x_iload_n C 2 dX5_set_33 rfl ?_
          obtain ⟨v34, hg34, h⟩ := ob h
          refine x_ci0 (x_runV C (As := [.int x2, .int x3]) (rest := []) (c_X4_mayHold hg34) (cw_X5_set_X4_mayHold_98 C) 0 rfl rfl rfl (Nat.le_of_ble_eq_true rfl) dX5_set_34 ⟨Nat.zero_le _, Nat.zero_le _⟩) ?_
          refine x_if_ne C (t := 50) dX5_set_37 (by decide) (fun c37 => ?_) (fun c37 => ?_)
          · replace h := (if_neg c37).symm.trans h
            refine x_aload C 4 dX5_set_50 rfl ?_
            refine x_iload_n C 1 dX5_set_52 rfl ?_
            refine x_iload_n C 2 dX5_set_53 rfl ?_
            obtain ⟨v54, hg54, h⟩ := ob h
            refine x_ci0 (x_runV C (As := [.int x2, .int x3]) (rest := []) (c_X4_valueAt hg54) (cw_X5_set_X4_valueAt_104 C) 0 rfl rfl rfl (Nat.le_of_ble_eq_true rfl) dX5_set_54 ⟨Nat.zero_le _, Nat.zero_le _⟩) ?_
            refine x_istore C (lv' := [(0, .ref (ad 32)), (2, .int x2), (3, .int x3), (4, .int x4), (5, .ref (ad 0)), (6, .int v54)]) dX5_set_57 (by decide) rfl ?_
            refine x_aload C 4 dX5_set_59 rfl ?_
            refine x_aload_n C 0 dX5_set_61 rfl ?_
            refine x_get C (R' := RX5) (T := TX5) (N := 6) (ci := 5) 32 1 rfl rfl (by decide) rfl rfl hi_X5_set_5 lk_X5_set_19 dX5_set_62 ?_
            refine x_iconst C (v := 1) dX5_set_65 (by decide) ?_
            refine x_aload C 4 dX5_set_66 rfl ?_
            obtain ⟨v68, hg68, h⟩ := ob h
            refine x_ci0 (x_runV C (As := []) (rest := [.int 1, .ref (ad 14), .ref (ad 0)]) (c_X4_stampOfNext hg68) (cw_X5_set_X4_stampOfNext_86 C) 0 rfl rfl rfl (Nat.le_of_ble_eq_true rfl) dX5_set_68 ⟨Nat.zero_le _, Nat.zero_le _⟩) ?_
            refine x_iload_n C 1 dX5_set_71 rfl ?_
            refine x_iload_n C 2 dX5_set_72 rfl ?_
            refine x_iload C 3 dX5_set_73 rfl ?_
            refine x_iconst C (v := (-1)) dX5_set_75 (by decide) ?_
            obtain ⟨⟨v76, S76⟩, hg76, h⟩ := ob h
            refine x_ci0 (x_runV C (As := [.int 1, .int v68, .int x2, .int x3, .int x4, .int (-1)]) (rest := [.ref (ad 0)]) (c_X2_append hg76) (cw_X5_set_X2_append_90 C) 14 rfl rfl rfl (Nat.le_of_ble_eq_true rfl) dX5_set_76 ⟨Nat.zero_le _, Nat.zero_le _⟩) ?_
            refine x_locals (lv' := [(6, .int v54)]) [5] rfl ?_
            exact X_X5_set_b79 C T h
          · replace h := (if_pos c37).symm.trans h
            obtain rfl := Option.some.inj h
            exact x_throw C (T (Nat.succ_ne_zero _)) (kk := 2) rfl (st_mem 1 rfl) thr_X5_set_2_k thr_X5_set_2_i thr_X5_set_2_a thr_X5_set_2_b thr_X5_set_2_g (by decide +kernel) dX5_set_40 dX5_set_43 dX5_set_44 dX5_set_46 dX5_set_49 (lt_ble rfl) (Nat.le_of_ble_eq_true rfl) (Nat.le_refl _) (Nat.le_refl _)
        | succ q27 =>
          replace h := (if_neg (Nat.succ_ne_zero q27)).symm.trans h
          obtain rfl := Option.some.inj h
          exact x_cx C (T (Nat.succ_ne_zero _)) (x_runVX C (T (Nat.succ_ne_zero _)).2.2 (As := []) (rest := []) (c_X5_checkRoomForChange_th (T (Nat.succ_ne_zero _)).1 hg27) (cw_X5_set_X5_checkRoomForChange_79_th C) 32 rfl rfl rfl (Nat.le_of_ble_eq_true rfl) dX5_set_27 ⟨Nat.le_refl _, Nat.le_refl _⟩)
      | succ q23 =>
        replace h := (if_neg (Nat.succ_ne_zero q23)).symm.trans h
        obtain rfl := Option.some.inj h
        exact x_cx C (T (Nat.succ_ne_zero _)) (x_runSX C (T (Nat.succ_ne_zero _)).2.2 (As := [.int x4, .int (-1), .int 9]) (rest := []) (c_X5_checkArgument_th (T (Nat.succ_ne_zero _)).1 hg23) (cw_X5_set_X5_checkArgument_53_th C) rfl (Nat.le_of_ble_eq_true rfl) dX5_set_23 ⟨Nat.le_refl _, Nat.le_refl _⟩)
    | succ q15 =>
      replace h := (if_neg (Nat.succ_ne_zero q15)).symm.trans h
      obtain rfl := Option.some.inj h
      exact x_cx C (T (Nat.succ_ne_zero _)) (x_runSX C (T (Nat.succ_ne_zero _)).2.2 (As := [.int x3, .int 4]) (rest := []) (c_X5_checkIndex_th (T (Nat.succ_ne_zero _)).1 hg15) (cw_X5_set_X5_checkIndex_49_th C) rfl (Nat.le_of_ble_eq_true rfl) dX5_set_15 ⟨Nat.le_refl _, Nat.le_refl _⟩)
  | succ q10 =>
    replace h := (if_neg (Nat.succ_ne_zero q10)).symm.trans h
    obtain rfl := Option.some.inj h
    exact x_cx C (T (Nat.succ_ne_zero _)) (x_runSX C (T (Nat.succ_ne_zero _)).2.2 (As := [.ref (ad 0), .int x2]) (rest := []) (c_X5_checkEntry_th (T (Nat.succ_ne_zero _)).1 hg10) (cw_X5_set_X5_checkEntry_75_th C) rfl (Nat.le_of_ble_eq_true rfl) dX5_set_10 ⟨Nat.le_refl _, Nat.le_refl _⟩)
def X5_set (S : St) (x1 x2 x3 x4 : Int32) : Option (Nat × Int32 × St) :=
  (X5_treeOf S x1).bind fun q2 => if q2.1 = 0 then (bif q2.2 then ((X5_set_b5 (swS S) x2 x3 x4).map unz) else (X5_set_b5 S x2 x3 x4)) else some (q2.1, 0, S)
set_option maxHeartbeats 4000000 in
set_option maxRecDepth 100000 in
theorem X_X5_set {p : Program} {l : Launch} {e : Env} {s : State} {m : MethodId} {args : Array Value} {below : List Frame} {meth : Method} {c : Code} {D : va_G} {cI cZ cJ : ClassId} {ad : Nat → Nat} {rest w0 : va_W} {z : Nat × Int32 × St} (C : XC p (rm_X5_set z.1) s m args meth c cX5_set 7 (some .int) RX5 wsX5_set D (t3 cI cZ cJ)) (T : z.1 ≠ 0 → XT l s c w0) {S : St} {x1 x2 x3 x4 : Int32} (h : X5_set S x1 x2 x3 x4 = some z) : XW p l e (rm_X5_set z.1) s m args below meth c D w0 7 (QZ z.1 (MQ below (QI D (t3 cI cZ cJ) w0 (wE cI cZ ad z.2.2 (eo ad (ad 0) (ad 7) rest)) s.heap.size z.2.1) args s 0 0 (va_A w0 s.heap.size)) (fun q9 => vx_MQ below nQ (XX D (t3 cI cZ cJ) w0 (wE cI cZ ad z.2.2 (eo ad (ad 0) (ad 7) rest)) s.heap.size (exN q9)) args s 1 6 (va_A w0 s.heap.size))) (wE cI cZ ad S (eo ad (ad 0) (ad 7) rest)) 0 0 0 [(0, .ref (ad 32)), (1, .int x1), (2, .int x2), (3, .int x3), (4, .int x4)] [] := by
  unfold X5_set at h
  refine x_aload_n C 0 dX5_set_0 rfl ?_
  refine x_iload_n C 1 dX5_set_1 rfl ?_
  obtain ⟨⟨q2, b2⟩, hg2, h⟩ := ob h
  cases q2 with
  | zero =>
    replace h := (if_pos (c := (0 : Nat) = 0) rfl).symm.trans h
    refine x_cr0 (x_runV C (As := [.int x1]) (rest := []) (c_X5_treeOf_ok hg2) (cw_X5_set_X5_treeOf_71 C) 32 rfl rfl rfl (Nat.le_of_ble_eq_true rfl) dX5_set_2 ⟨Nat.zero_le _, Nat.zero_le _⟩) ?_
    refine x_locals (lv' := [(0, .ref (ad 32)), (2, .int x2), (3, .int x3), (4, .int x4)]) [0, 2, 3, 4] rfl ?_
    cases b2 with
    | false => exact X_X5_set_b5 (x := ad 0) (y := ad 7) C T h
    | true =>
      refine x_world (w' := wE cI cZ (swA ad) (swS S) (eo (swA ad) (ad 0) (ad 7) rest)) (wl_sw (D := D)).1 ((wl_sw (D := D)).2 _) ?_
      obtain ⟨z9, hz9, hz8⟩ := Option.map_eq_some_iff.mp h
      subst hz8
      exact x_mono (QZI.mono wl_unsw) (X_X5_set_b5 (ad := swA ad) (x := ad 0) (y := ad 7) (z := z9) C T hz9)
  | succ q2 =>
    replace h := (if_neg (Nat.succ_ne_zero q2)).symm.trans h
    obtain rfl := Option.some.inj h
    exact x_cx C (T (Nat.succ_ne_zero _)) (x_runVX C (T (Nat.succ_ne_zero _)).2.2 (As := [.int x1]) (rest := []) (c_X5_treeOf_th (T (Nat.succ_ne_zero _)).1 hg2) (cw_X5_set_X5_treeOf_71_th C) 32 rfl rfl rfl (Nat.le_of_ble_eq_true rfl) dX5_set_2 ⟨Nat.le_refl _, Nat.le_refl _⟩)
set_option maxRecDepth 100000 in
theorem c_X5_set_ok {l : Launch} {D : va_G} {cI cZ cJ : ClassId} {ad : Nat → Nat} {S : St} {rest : va_W} {x1 x2 x3 x4 : Int32} {v : Int32} {S' : St} (h : X5_set S x1 x2 x3 x4 = some (0, v, S')) : ∀ sz, Met l yX5_set wsX5_set (rm_X5_set 0) (PC D (t3 cI cZ cJ) [.ref (ad 32), .int x1, .int x2, .int x3, .int x4] (wE cI cZ ad S (eo ad (ad 0) (ad 7) rest)) sz) (QI D (t3 cI cZ cJ) (wE cI cZ ad S (eo ad (ad 0) (ad 7) rest)) (wE cI cZ ad S' (eo ad (ad 0) (ad 7) rest)) sz v) 0 0 (va_A (wE cI cZ ad S (eo ad (ad 0) (ad 7) rest)) sz) := by
  refine x_met (Qc := fun sz => QI D (t3 cI cZ cJ) (wE cI cZ ad S (eo ad (ad 0) (ad 7) rest)) (wE cI cZ ad S' (eo ad (ad 0) (ad 7) rest)) sz v) RX5 rfl (by decide) rfl (Nat.le_of_ble_eq_true rfl) (fun p e s m args below meth c C => ?_)
  exact X_X5_set (z := (0, v, S')) C (fun h9 => (h9 rfl).elim) h
set_option maxRecDepth 100000 in
theorem c_X5_set_th {l : Launch} {D : va_G} {cI cZ cJ : ClassId} {ad : Nat → Nat} {S : St} {rest : va_W} {x1 x2 x3 x4 : Int32} {v : Int32} {S' : St} {q : Nat} (hfl : l.stackTraces = false) (h : X5_set S x1 x2 x3 x4 = some ((q + 1), v, S')) : ∀ sz, vx_Met l yX5_set wsX5_set (rm_X5_set (q + 1)) (PX D (t3 cI cZ cJ) [.ref (ad 32), .int x1, .int x2, .int x3, .int x4] (wE cI cZ ad S (eo ad (ad 0) (ad 7) rest)) sz) nQ (XX D (t3 cI cZ cJ) (wE cI cZ ad S (eo ad (ad 0) (ad 7) rest)) (wE cI cZ ad S' (eo ad (ad 0) (ad 7) rest)) sz (exN q)) 1 6 (va_A (wE cI cZ ad S (eo ad (ad 0) (ad 7) rest)) sz) := by
  refine x_metX hfl (XCf := fun sz => XX D (t3 cI cZ cJ) (wE cI cZ ad S (eo ad (ad 0) (ad 7) rest)) (wE cI cZ ad S' (eo ad (ad 0) (ad 7) rest)) sz (exN q)) RX5 rfl (by decide) rfl (Nat.le_of_ble_eq_true rfl) (fun p e s m args below meth c C T => ?_)
  exact X_X5_set (z := (q + 1, v, S')) C (fun _ => T) h
/-! EntryMasters.checkIsNotFixed(I)V -/
abbrev rm_X5_checkIsNotFixed (kc : Nat) : Room := rmf 6 82 kc
theorem thr_X5_checkIsNotFixed_2_k : Cond.classLink RX5 61 (exN 2) ∈ wsX5_checkIsNotFixed := by decide +kernel
theorem thr_X5_checkIsNotFixed_2_i : Cond.initialized (exN 2) ∈ wsX5_checkIsNotFixed := by decide +kernel
theorem thr_X5_checkIsNotFixed_2_a : ∀ z ∈ (vx_atS RX5 65 (exN 2) ["java/lang/RuntimeException", "java/lang/Exception"]).filter goodWord, z ∈ wsX5_checkIsNotFixed := by decide +kernel
theorem thr_X5_checkIsNotFixed_2_b : ∀ z ∈ (vx_atS RX5 65 (exN 2) ["java/lang/RuntimeException", "java/lang/Exception"]).filter (fun z => !goodWord z), z ∈ [Cond.castable (exN 2) (exN 2), Cond.declares (Bundle.initS (deN 0)), Cond.declares (Bundle.initS (deN 1)), Cond.declares (Bundle.initS (deN 2))] := by decide +kernel
theorem thr_X5_checkIsNotFixed_2_g : ∀ z ∈ Cond.classLink RX5 61 (exN 2) :: Cond.initialized (exN 2) :: vx_atS RX5 65 (exN 2) ["java/lang/RuntimeException", "java/lang/Exception"], vx_ot z = true := by decide +kernel
def X5_checkIsNotFixed_b9  : Option (Nat) :=
  some 3
set_option maxHeartbeats 4000000 in
set_option maxRecDepth 100000 in
theorem X_X5_checkIsNotFixed_b9 {p : Program} {l : Launch} {e : Env} {s : State} {m : MethodId} {args : Array Value} {below : List Frame} {meth : Method} {c : Code} {D : va_G} {cI cZ cJ : ClassId} {w w0 : va_W} {z : Nat} (C : XC p (rm_X5_checkIsNotFixed z) s m args meth c cX5_checkIsNotFixed 1 none RX5 wsX5_checkIsNotFixed D (t3 cI cZ cJ)) (T : z ≠ 0 → XT l s c w0) (h : X5_checkIsNotFixed_b9  = some z) : XW p l e (rm_X5_checkIsNotFixed z) s m args below meth c D w0 1 (QZ z (MQ below (QV D (t3 cI cZ cJ) w0 w s.heap.size) args s 0 0 (va_A w0 s.heap.size)) (fun q9 => vx_MQ below nQ (XX D (t3 cI cZ cJ) w0 w s.heap.size (exN q9)) args s 1 6 (va_A w0 s.heap.size))) w 0 0 9 [] [] := by
  unfold X5_checkIsNotFixed_b9 at h
  obtain rfl := Option.some.inj h
  exact x_throw C (T (Nat.succ_ne_zero _)) (kk := 2) rfl (st_mem 10 rfl) thr_X5_checkIsNotFixed_2_k thr_X5_checkIsNotFixed_2_i thr_X5_checkIsNotFixed_2_a thr_X5_checkIsNotFixed_2_b thr_X5_checkIsNotFixed_2_g (by decide +kernel) dX5_checkIsNotFixed_9 dX5_checkIsNotFixed_12 dX5_checkIsNotFixed_13 dX5_checkIsNotFixed_15 dX5_checkIsNotFixed_18 (lt_ble rfl) (Nat.le_of_ble_eq_true rfl) (Nat.le_refl _) (Nat.le_refl _)
def X5_checkIsNotFixed  (x0 : Int32) : Option (Nat) :=
  if x0 = 0 then (X5_checkIsNotFixed_b9) else (if x0 = 1 then (X5_checkIsNotFixed_b9) else (some 0))
set_option maxHeartbeats 4000000 in
set_option maxRecDepth 100000 in
theorem X_X5_checkIsNotFixed {p : Program} {l : Launch} {e : Env} {s : State} {m : MethodId} {args : Array Value} {below : List Frame} {meth : Method} {c : Code} {D : va_G} {cI cZ cJ : ClassId} {w w0 : va_W} {z : Nat} (C : XC p (rm_X5_checkIsNotFixed z) s m args meth c cX5_checkIsNotFixed 1 none RX5 wsX5_checkIsNotFixed D (t3 cI cZ cJ)) (T : z ≠ 0 → XT l s c w0) {x0 : Int32} (h : X5_checkIsNotFixed x0 = some z) : XW p l e (rm_X5_checkIsNotFixed z) s m args below meth c D w0 1 (QZ z (MQ below (QV D (t3 cI cZ cJ) w0 w s.heap.size) args s 0 0 (va_A w0 s.heap.size)) (fun q9 => vx_MQ below nQ (XX D (t3 cI cZ cJ) w0 w s.heap.size (exN q9)) args s 1 6 (va_A w0 s.heap.size))) w 0 0 0 [(0, .int x0)] [] := by
  unfold X5_checkIsNotFixed at h
  refine x_iload_n C 0 dX5_checkIsNotFixed_0 rfl ?_
  refine x_if_eq C (t := 9) dX5_checkIsNotFixed_1 (by decide) (fun c1 => ?_) (fun c1 => ?_)
  · replace h := (if_pos c1).symm.trans h
    refine x_locals (lv' := []) [] rfl ?_
    exact X_X5_checkIsNotFixed_b9 C T h
  · replace h := (if_neg c1).symm.trans h
    refine x_iload_n C 0 dX5_checkIsNotFixed_4 rfl ?_
    refine x_iconst C (v := 1) dX5_checkIsNotFixed_5 (by decide) ?_
    refine x_icmp_ne C (t := 19) dX5_checkIsNotFixed_6 (by decide) (fun c6 => ?_) (fun c6 => ?_)
    · replace h := (if_neg c6).symm.trans h
      obtain rfl := Option.some.inj h
      exact x_vret C dX5_checkIsNotFixed_19
    · replace h := (if_pos c6).symm.trans h
      refine x_locals (lv' := []) [] rfl ?_
      exact X_X5_checkIsNotFixed_b9 C T h
set_option maxRecDepth 100000 in
theorem c_X5_checkIsNotFixed_ok {l : Launch} {D : va_G} {cI cZ cJ : ClassId} {w : va_W} {x0 : Int32} (h : X5_checkIsNotFixed x0 = some 0) : ∀ sz, Met l yX5_checkIsNotFixed wsX5_checkIsNotFixed (rm_X5_checkIsNotFixed 0) (PC D (t3 cI cZ cJ) [.int x0] w sz) (QV D (t3 cI cZ cJ) w w sz) 0 0 (va_A w sz) := by
  refine x_met (Qc := fun sz => QV D (t3 cI cZ cJ) w w sz) RX5 rfl (by decide) rfl (Nat.le_of_ble_eq_true rfl) (fun p e s m args below meth c C => ?_)
  exact X_X5_checkIsNotFixed (z := 0) C (fun h9 => (h9 rfl).elim) h
set_option maxRecDepth 100000 in
theorem c_X5_checkIsNotFixed_th {l : Launch} {D : va_G} {cI cZ cJ : ClassId} {w : va_W} {x0 : Int32} {q : Nat} (hfl : l.stackTraces = false) (h : X5_checkIsNotFixed x0 = some (q + 1)) : ∀ sz, vx_Met l yX5_checkIsNotFixed wsX5_checkIsNotFixed (rm_X5_checkIsNotFixed (q + 1)) (PX D (t3 cI cZ cJ) [.int x0] w sz) nQ (XX D (t3 cI cZ cJ) w w sz (exN q)) 1 6 (va_A w sz) := by
  refine x_metX hfl (XCf := fun sz => XX D (t3 cI cZ cJ) w w sz (exN q)) RX5 rfl (by decide) rfl (Nat.le_of_ble_eq_true rfl) (fun p e s m args below meth c C T => ?_)
  exact X_X5_checkIsNotFixed (z := q + 1) C (fun _ => T) h
/-! EntryMasters.move(IIII)I -/
abbrev rm_X5_move (kc : Nat) : Room := rmf 8 138 kc
theorem thr_X5_move_2_k : Cond.classLink RX5 61 (exN 2) ∈ wsX5_move := by decide +kernel
theorem thr_X5_move_2_i : Cond.initialized (exN 2) ∈ wsX5_move := by decide +kernel
theorem thr_X5_move_2_a : ∀ z ∈ (vx_atS RX5 65 (exN 2) ["java/lang/RuntimeException", "java/lang/Exception"]).filter goodWord, z ∈ wsX5_move := by decide +kernel
theorem thr_X5_move_2_b : ∀ z ∈ (vx_atS RX5 65 (exN 2) ["java/lang/RuntimeException", "java/lang/Exception"]).filter (fun z => !goodWord z), z ∈ [Cond.castable (exN 2) (exN 2), Cond.declares (Bundle.initS (deN 0)), Cond.declares (Bundle.initS (deN 1)), Cond.declares (Bundle.initS (deN 2))] := by decide +kernel
theorem thr_X5_move_2_g : ∀ z ∈ Cond.classLink RX5 61 (exN 2) :: Cond.initialized (exN 2) :: vx_atS RX5 65 (exN 2) ["java/lang/RuntimeException", "java/lang/Exception"], vx_ot z = true := by decide +kernel
theorem hi_X5_move_5 : ∀ z ∈ u_ws RX5 TX5 6, z ∈ wsX5_move := by decide +kernel
theorem lk_X5_move_19 : Cond.fieldLink RX5 19 RX5 "log" "LEntryMasters$Log;" ∈ wsX5_move := by decide +kernel
theorem cw_X5_move_X2_append_90 {p : Program} {s : State} {m : MethodId} {args : Array Value} {meth : Method} {c : Code} {D : va_G} {tys : List (ClassId × FieldType)} {R : Room} {kc : Nat} (C : XC p R s m args meth c cX5_move 7 (some .int) RX5 wsX5_move D tys) : CallW (rm_X5_move kc) s args RX5 RX2 90 yX2_append cX2_append 8 (some .int) wsX2_append rm_X2_append 0 0 6 := cwV 6 C.2.2.2.2.1 gX5_move_X2_append rfl rfl rfl (by decide +kernel) ⟨Nat.le_of_ble_eq_true rfl, Nat.le_of_ble_eq_true rfl⟩
theorem cw_X5_move_X4_isAtOrBelow_111 {p : Program} {s : State} {m : MethodId} {args : Array Value} {meth : Method} {c : Code} {D : va_G} {tys : List (ClassId × FieldType)} {R : Room} {kc : Nat} (C : XC p R s m args meth c cX5_move 7 (some .int) RX5 wsX5_move D tys) : CallW (rm_X5_move kc) s args RX5 RX4 111 yX4_isAtOrBelow cX4_isAtOrBelow 5 (some .boolean) wsX4_isAtOrBelow rm_X4_isAtOrBelow 0 0 2 := cwV 2 C.2.2.2.2.1 gX5_move_X4_isAtOrBelow rfl rfl rfl (by decide +kernel) ⟨Nat.le_of_ble_eq_true rfl, Nat.le_of_ble_eq_true rfl⟩
theorem cw_X5_move_X4_learn_94 {p : Program} {s : State} {m : MethodId} {args : Array Value} {meth : Method} {c : Code} {D : va_G} {tys : List (ClassId × FieldType)} {R : Room} {kc : Nat} (C : XC p R s m args meth c cX5_move 7 (some .int) RX5 wsX5_move D tys) : CallW (rm_X5_move kc) s args RX5 RX4 94 yX4_learn cX4_learn 3 none wsX4_learn rm_X4_learn 0 0 1 := cwV 1 C.2.2.2.2.1 gX5_move_X4_learn rfl rfl rfl (by decide +kernel) ⟨Nat.le_of_ble_eq_true rfl, Nat.le_of_ble_eq_true rfl⟩
theorem cw_X5_move_X4_parentAt_116 {p : Program} {s : State} {m : MethodId} {args : Array Value} {meth : Method} {c : Code} {D : va_G} {tys : List (ClassId × FieldType)} {R : Room} {kc : Nat} (C : XC p R s m args meth c cX5_move 7 (some .int) RX5 wsX5_move D tys) : CallW (rm_X5_move kc) s args RX5 RX4 116 yX4_parentAt cX4_parentAt 2 (some .int) wsX4_parentAt rm_X4_parentAt 0 0 1 := cwV 1 C.2.2.2.2.1 gX5_move_X4_parentAt rfl rfl rfl (by decide +kernel) ⟨Nat.le_of_ble_eq_true rfl, Nat.le_of_ble_eq_true rfl⟩
theorem cw_X5_move_X4_stampOfNext_86 {p : Program} {s : State} {m : MethodId} {args : Array Value} {meth : Method} {c : Code} {D : va_G} {tys : List (ClassId × FieldType)} {R : Room} {kc : Nat} (C : XC p R s m args meth c cX5_move 7 (some .int) RX5 wsX5_move D tys) : CallW (rm_X5_move kc) s args RX5 RX4 86 yX4_stampOfNext cX4_stampOfNext 2 (some .int) wsX4_stampOfNext rm_X4_stampOfNext 0 0 0 := cwV 0 C.2.2.2.2.1 gX5_move_X4_stampOfNext rfl rfl rfl (by decide +kernel) ⟨Nat.le_of_ble_eq_true rfl, Nat.le_of_ble_eq_true rfl⟩
theorem cw_X5_move_X5_checkArgument_53 {p : Program} {s : State} {m : MethodId} {args : Array Value} {meth : Method} {c : Code} {D : va_G} {tys : List (ClassId × FieldType)} {R : Room} {kc : Nat} (C : XC p R s m args meth c cX5_move 7 (some .int) RX5 wsX5_move D tys) : CallB (rm_X5_move kc) s args RX5 53 yX5_checkArgument cX5_checkArgument 3 none wsX5_checkArgument (rm_X5_checkArgument 0) 0 0 3 ∧ (Cond.static yX5_checkArgument).before args s = true := va_cwS 3 C.2.2.2.2.1 gX5_move_X5_checkArgument rfl rfl rfl (by decide +kernel) ⟨Nat.le_of_ble_eq_true rfl, Nat.le_of_ble_eq_true rfl⟩
theorem cw_X5_move_X5_checkArgument_53_th {p : Program} {s : State} {m : MethodId} {args : Array Value} {meth : Method} {c : Code} {D : va_G} {tys : List (ClassId × FieldType)} {R : Room} {kc : Nat} {q : Nat} (C : XC p R s m args meth c cX5_move 7 (some .int) RX5 wsX5_move D tys) : CallB (rm_X5_move kc) s args RX5 53 yX5_checkArgument cX5_checkArgument 3 none wsX5_checkArgument (rm_X5_checkArgument (q + 1)) 1 6 3 ∧ (Cond.static yX5_checkArgument).before args s = true := va_cwS 3 C.2.2.2.2.1 gX5_move_X5_checkArgument rfl rfl rfl (by decide +kernel) ⟨Nat.le_of_ble_eq_true rfl, Nat.le_of_ble_eq_true rfl⟩
theorem cw_X5_move_X5_checkEntry_75 {p : Program} {s : State} {m : MethodId} {args : Array Value} {meth : Method} {c : Code} {D : va_G} {tys : List (ClassId × FieldType)} {R : Room} {kc : Nat} (C : XC p R s m args meth c cX5_move 7 (some .int) RX5 wsX5_move D tys) : CallB (rm_X5_move kc) s args RX5 75 yX5_checkEntry cX5_checkEntry 2 none wsX5_checkEntry (rm_X5_checkEntry 0) 0 0 2 ∧ (Cond.static yX5_checkEntry).before args s = true := va_cwS 2 C.2.2.2.2.1 gX5_move_X5_checkEntry rfl rfl rfl (by decide +kernel) ⟨Nat.le_of_ble_eq_true rfl, Nat.le_of_ble_eq_true rfl⟩
theorem cw_X5_move_X5_checkEntry_75_th {p : Program} {s : State} {m : MethodId} {args : Array Value} {meth : Method} {c : Code} {D : va_G} {tys : List (ClassId × FieldType)} {R : Room} {kc : Nat} {q : Nat} (C : XC p R s m args meth c cX5_move 7 (some .int) RX5 wsX5_move D tys) : CallB (rm_X5_move kc) s args RX5 75 yX5_checkEntry cX5_checkEntry 2 none wsX5_checkEntry (rm_X5_checkEntry (q + 1)) 1 6 2 ∧ (Cond.static yX5_checkEntry).before args s = true := va_cwS 2 C.2.2.2.2.1 gX5_move_X5_checkEntry rfl rfl rfl (by decide +kernel) ⟨Nat.le_of_ble_eq_true rfl, Nat.le_of_ble_eq_true rfl⟩
theorem cw_X5_move_X5_checkIsNotFixed_108 {p : Program} {s : State} {m : MethodId} {args : Array Value} {meth : Method} {c : Code} {D : va_G} {tys : List (ClassId × FieldType)} {R : Room} {kc : Nat} (C : XC p R s m args meth c cX5_move 7 (some .int) RX5 wsX5_move D tys) : CallB (rm_X5_move kc) s args RX5 108 yX5_checkIsNotFixed cX5_checkIsNotFixed 1 none wsX5_checkIsNotFixed (rm_X5_checkIsNotFixed 0) 0 0 1 ∧ (Cond.static yX5_checkIsNotFixed).before args s = true := va_cwS 1 C.2.2.2.2.1 gX5_move_X5_checkIsNotFixed rfl rfl rfl (by decide +kernel) ⟨Nat.le_of_ble_eq_true rfl, Nat.le_of_ble_eq_true rfl⟩
theorem cw_X5_move_X5_checkIsNotFixed_108_th {p : Program} {s : State} {m : MethodId} {args : Array Value} {meth : Method} {c : Code} {D : va_G} {tys : List (ClassId × FieldType)} {R : Room} {kc : Nat} {q : Nat} (C : XC p R s m args meth c cX5_move 7 (some .int) RX5 wsX5_move D tys) : CallB (rm_X5_move kc) s args RX5 108 yX5_checkIsNotFixed cX5_checkIsNotFixed 1 none wsX5_checkIsNotFixed (rm_X5_checkIsNotFixed (q + 1)) 1 6 1 ∧ (Cond.static yX5_checkIsNotFixed).before args s = true := va_cwS 1 C.2.2.2.2.1 gX5_move_X5_checkIsNotFixed rfl rfl rfl (by decide +kernel) ⟨Nat.le_of_ble_eq_true rfl, Nat.le_of_ble_eq_true rfl⟩
theorem cw_X5_move_X5_checkLabelIsFree_82 {p : Program} {s : State} {m : MethodId} {args : Array Value} {meth : Method} {c : Code} {D : va_G} {tys : List (ClassId × FieldType)} {R : Room} {kc : Nat} (C : XC p R s m args meth c cX5_move 7 (some .int) RX5 wsX5_move D tys) : CallB (rm_X5_move kc) s args RX5 82 yX5_checkLabelIsFree cX5_checkLabelIsFree 4 none wsX5_checkLabelIsFree (rm_X5_checkLabelIsFree 0) 0 0 4 ∧ (Cond.static yX5_checkLabelIsFree).before args s = true := va_cwS 4 C.2.2.2.2.1 gX5_move_X5_checkLabelIsFree rfl rfl rfl (by decide +kernel) ⟨Nat.le_of_ble_eq_true rfl, Nat.le_of_ble_eq_true rfl⟩
theorem cw_X5_move_X5_checkLabelIsFree_82_th {p : Program} {s : State} {m : MethodId} {args : Array Value} {meth : Method} {c : Code} {D : va_G} {tys : List (ClassId × FieldType)} {R : Room} {kc : Nat} {q : Nat} (C : XC p R s m args meth c cX5_move 7 (some .int) RX5 wsX5_move D tys) : CallB (rm_X5_move kc) s args RX5 82 yX5_checkLabelIsFree cX5_checkLabelIsFree 4 none wsX5_checkLabelIsFree (rm_X5_checkLabelIsFree (q + 1)) 1 6 4 ∧ (Cond.static yX5_checkLabelIsFree).before args s = true := va_cwS 4 C.2.2.2.2.1 gX5_move_X5_checkLabelIsFree rfl rfl rfl (by decide +kernel) ⟨Nat.le_of_ble_eq_true rfl, Nat.le_of_ble_eq_true rfl⟩
theorem cw_X5_move_X5_checkRoomForChange_79 {p : Program} {s : State} {m : MethodId} {args : Array Value} {meth : Method} {c : Code} {D : va_G} {tys : List (ClassId × FieldType)} {R : Room} {kc : Nat} (C : XC p R s m args meth c cX5_move 7 (some .int) RX5 wsX5_move D tys) : CallW (rm_X5_move kc) s args RX5 RX5 79 yX5_checkRoomForChange cX5_checkRoomForChange 1 none wsX5_checkRoomForChange (rm_X5_checkRoomForChange 0) 0 0 0 := cwV 0 C.2.2.2.2.1 gX5_move_X5_checkRoomForChange rfl rfl rfl (by decide +kernel) ⟨Nat.le_of_ble_eq_true rfl, Nat.le_of_ble_eq_true rfl⟩
theorem cw_X5_move_X5_checkRoomForChange_79_th {p : Program} {s : State} {m : MethodId} {args : Array Value} {meth : Method} {c : Code} {D : va_G} {tys : List (ClassId × FieldType)} {R : Room} {kc : Nat} {q : Nat} (C : XC p R s m args meth c cX5_move 7 (some .int) RX5 wsX5_move D tys) : CallW (rm_X5_move kc) s args RX5 RX5 79 yX5_checkRoomForChange cX5_checkRoomForChange 1 none wsX5_checkRoomForChange (rm_X5_checkRoomForChange (q + 1)) 1 6 0 := cwV 0 C.2.2.2.2.1 gX5_move_X5_checkRoomForChange rfl rfl rfl (by decide +kernel) ⟨Nat.le_of_ble_eq_true rfl, Nat.le_of_ble_eq_true rfl⟩
theorem cw_X5_move_X5_treeOf_71 {p : Program} {s : State} {m : MethodId} {args : Array Value} {meth : Method} {c : Code} {D : va_G} {tys : List (ClassId × FieldType)} {R : Room} {kc : Nat} (C : XC p R s m args meth c cX5_move 7 (some .int) RX5 wsX5_move D tys) : CallW (rm_X5_move kc) s args RX5 RX5 71 yX5_treeOf cX5_treeOf 2 (some (.object "EntryMasters$Tree")) wsX5_treeOf (rm_X5_treeOf 0) 0 0 1 := cwV 1 C.2.2.2.2.1 gX5_move_X5_treeOf rfl rfl rfl (by decide +kernel) ⟨Nat.le_of_ble_eq_true rfl, Nat.le_of_ble_eq_true rfl⟩
theorem cw_X5_move_X5_treeOf_71_th {p : Program} {s : State} {m : MethodId} {args : Array Value} {meth : Method} {c : Code} {D : va_G} {tys : List (ClassId × FieldType)} {R : Room} {kc : Nat} {q : Nat} (C : XC p R s m args meth c cX5_move 7 (some .int) RX5 wsX5_move D tys) : CallW (rm_X5_move kc) s args RX5 RX5 71 yX5_treeOf cX5_treeOf 2 (some (.object "EntryMasters$Tree")) wsX5_treeOf (rm_X5_treeOf (q + 1)) 1 6 1 := cwV 1 C.2.2.2.2.1 gX5_move_X5_treeOf rfl rfl rfl (by decide +kernel) ⟨Nat.le_of_ble_eq_true rfl, Nat.le_of_ble_eq_true rfl⟩
def X5_move_b95 (S : St) (x6 : Int32) : Option (Nat × Int32 × St) :=
  some (0, x6, S)
set_option maxHeartbeats 4000000 in
set_option maxRecDepth 100000 in
theorem X_X5_move_b95 {p : Program} {l : Launch} {e : Env} {s : State} {m : MethodId} {args : Array Value} {below : List Frame} {meth : Method} {c : Code} {D : va_G} {cI cZ cJ : ClassId} {ad : Nat → Nat} {rest w0 : va_W} {x y : Nat} {z : Nat × Int32 × St} (C : XC p (rm_X5_move z.1) s m args meth c cX5_move 7 (some .int) RX5 wsX5_move D (t3 cI cZ cJ)) (T : z.1 ≠ 0 → XT l s c w0) {S : St} {x6 : Int32} (h : X5_move_b95 S x6 = some z) : XW p l e (rm_X5_move z.1) s m args below meth c D w0 7 (QZ z.1 (MQ below (QI D (t3 cI cZ cJ) w0 (wE cI cZ ad z.2.2 (eo ad x y rest)) s.heap.size z.2.1) args s 0 0 (va_A w0 s.heap.size)) (fun q9 => vx_MQ below nQ (XX D (t3 cI cZ cJ) w0 (wE cI cZ ad z.2.2 (eo ad x y rest)) s.heap.size (exN q9)) args s 1 6 (va_A w0 s.heap.size))) (wE cI cZ ad S (eo ad x y rest)) 0 0 95 [(6, .int x6)] [] := by
  unfold X5_move_b95 at h
  refine x_iload C 0 dX5_move_95 rfl ?_
  obtain rfl := Option.some.inj h
  exact x_iret C (v := x6) dX5_move_97
def X5_move_b92 (S : St) (x6 s0 : Int32) : Option (Nat × Int32 × St) :=
  (X4_learn S s0).bind fun S92 => X5_move_b95 S92 x6
set_option maxHeartbeats 4000000 in
set_option maxRecDepth 100000 in
theorem X_X5_move_b92 {p : Program} {l : Launch} {e : Env} {s : State} {m : MethodId} {args : Array Value} {below : List Frame} {meth : Method} {c : Code} {D : va_G} {cI cZ cJ : ClassId} {ad : Nat → Nat} {rest w0 : va_W} {x y : Nat} {z : Nat × Int32 × St} (C : XC p (rm_X5_move z.1) s m args meth c cX5_move 7 (some .int) RX5 wsX5_move D (t3 cI cZ cJ)) (T : z.1 ≠ 0 → XT l s c w0) {S : St} {x6 s0 : Int32} (h : X5_move_b92 S x6 s0 = some z) : XW p l e (rm_X5_move z.1) s m args below meth c D w0 7 (QZ z.1 (MQ below (QI D (t3 cI cZ cJ) w0 (wE cI cZ ad z.2.2 (eo ad x y rest)) s.heap.size z.2.1) args s 0 0 (va_A w0 s.heap.size)) (fun q9 => vx_MQ below nQ (XX D (t3 cI cZ cJ) w0 (wE cI cZ ad z.2.2 (eo ad x y rest)) s.heap.size (exN q9)) args s 1 6 (va_A w0 s.heap.size))) (wE cI cZ ad S (eo ad x y rest)) 0 0 92 [(6, .int x6)] [.int s0, .ref (ad 0)] := by
  unfold X5_move_b92 at h
  obtain ⟨S92, hg92, h⟩ := ob h
  refine x_cv0 (x_runV C (As := [.int s0]) (rest := []) (c_X4_learn hg92) (cw_X5_move_X4_learn_94 C) 0 rfl rfl rfl (Nat.le_of_ble_eq_true rfl) dX5_move_92 ⟨Nat.zero_le _, Nat.zero_le _⟩) ?_
  exact X_X5_move_b95 C T h
def X5_move_b5 (S : St) (x2 x3 x4 : Int32) : Option (Nat × Int32 × St) :=
  (X5_checkEntry S x2).bind fun q10 => if q10 = 0 then ((X5_checkEntry S x3).bind fun q16 => if q16 = 0 then ((X5_checkArgument x4 0 99).bind fun q24 => if q24 = 0 then ((X5_checkRoomForChange S).bind fun q28 => if q28 = 0 then ((X5_checkIsNotFixed x2).bind fun q32 => if q32 = 0 then ((X4_isAtOrBelow S x3 x2).bind fun v39 => if v39 = 0 then ((X5_checkLabelIsFree S x3 x4 x2).bind fun q61 => if q61 = 0 then ((X4_parentAt S x2).bind fun v67 => (X4_stampOfNext S).bind fun v81 => (X2_append S 2 v81 x2 x3 x4 (-1)).bind fun q89 => X5_move_b92 q89.2 v67 q89.1) else some (q61, 0, S)) else (some (3, 0, S))) else some (q32, 0, S)) else some (q28, 0, S)) else some (q24, 0, S)) else some (q16, 0, S)) else some (q10, 0, S)
set_option maxHeartbeats 4000000 in
set_option maxRecDepth 100000 in
theorem X_X5_move_b5 {p : Program} {l : Launch} {e : Env} {s : State} {m : MethodId} {args : Array Value} {below : List Frame} {meth : Method} {c : Code} {D : va_G} {cI cZ cJ : ClassId} {ad : Nat → Nat} {rest w0 : va_W} {x y : Nat} {z : Nat × Int32 × St} (C : XC p (rm_X5_move z.1) s m args meth c cX5_move 7 (some .int) RX5 wsX5_move D (t3 cI cZ cJ)) (T : z.1 ≠ 0 → XT l s c w0) {S : St} {x2 x3 x4 : Int32} (h : X5_move_b5 S x2 x3 x4 = some z) : XW p l e (rm_X5_move z.1) s m args below meth c D w0 7 (QZ z.1 (MQ below (QI D (t3 cI cZ cJ) w0 (wE cI cZ ad z.2.2 (eo ad x y rest)) s.heap.size z.2.1) args s 0 0 (va_A w0 s.heap.size)) (fun q9 => vx_MQ below nQ (XX D (t3 cI cZ cJ) w0 (wE cI cZ ad z.2.2 (eo ad x y rest)) s.heap.size (exN q9)) args s 1 6 (va_A w0 s.heap.size))) (wE cI cZ ad S (eo ad x y rest)) 0 0 5 [(0, .ref (ad 32)), (2, .int x2), (3, .int x3), (4, .int x4)] [.ref (ad 0)] := by
  unfold X5_move_b5 at h
  refine x_astore C (lv' := [(0, .ref (ad 32)), (2, .int x2), (3, .int x3), (4, .int x4), (5, .ref (ad 0))]) dX5_move_5 (by decide) rfl ?_
  refine x_aload C 4 dX5_move_7 rfl ?_
  refine x_iload_n C 1 dX5_move_9 rfl ?_
  obtain ⟨q10, hg10, h⟩ := ob h
  cases q10 with
  | zero =>
    replace h := (if_pos (c := (0 : Nat) = 0) rfl).symm.trans h
    refine x_cv0 (x_runS C (As := [.ref (ad 0), .int x2]) (rest := []) (c_X5_checkEntry_ok hg10) (cw_X5_move_X5_checkEntry_75 C) rfl (Nat.le_of_ble_eq_true rfl) dX5_move_10 ⟨Nat.zero_le _, Nat.zero_le _⟩) ?_
    refine x_aload C 4 dX5_move_13 rfl ?_
    refine x_iload_n C 2 dX5_move_15 rfl ?_
    obtain ⟨q16, hg16, h⟩ := ob h
    cases q16 with
    | zero =>
      replace h := (if_pos (c := (0 : Nat) = 0) rfl).symm.trans h
      refine x_cv0 (x_runS C (As := [.ref (ad 0), .int x3]) (rest := []) (c_X5_checkEntry_ok hg16) (cw_X5_move_X5_checkEntry_75 C) rfl (Nat.le_of_ble_eq_true rfl) dX5_move_16 ⟨Nat.zero_le _, Nat.zero_le _⟩) ?_
      refine x_iload C 3 dX5_move_19 rfl ?_
      refine x_iconst C (v := 0) dX5_move_21 (by decide) ?_
      refine x_bipush C (v := 99) dX5_move_22 (by decide) ?_
      obtain ⟨q24, hg24, h⟩ := ob h
      cases q24 with
      | zero =>
        replace h := (if_pos (c := (0 : Nat) = 0) rfl).symm.trans h
        refine x_cv0 (x_runS C (As := [.int x4, .int 0, .int 99]) (rest := []) (c_X5_checkArgument_ok hg24) (cw_X5_move_X5_checkArgument_53 C) rfl (Nat.le_of_ble_eq_true rfl) dX5_move_24 ⟨Nat.zero_le _, Nat.zero_le _⟩) ?_
        refine x_aload_n C 0 dX5_move_27 rfl ?_
        obtain ⟨q28, hg28, h⟩ := ob h
        cases q28 with
        | zero =>
          replace h := (if_pos (c := (0 : Nat) = 0) rfl).symm.trans h
          refine x_cv0 (x_runV C (As := []) (rest := []) (c_X5_checkRoomForChange_ok hg28) (cw_X5_move_X5_checkRoomForChange_79 C) 32 rfl rfl rfl (Nat.le_of_ble_eq_true rfl) dX5_move_28 ⟨Nat.zero_le _, Nat.zero_le _⟩) ?_
          refine x_iload_n C 1 dX5_move_31 rfl ?_
          obtain ⟨q32, hg32, h⟩ := ob h
          cases q32 with
          | zero =>
            replace h := (if_pos (c := (0 : Nat) = 0) rfl).symm.trans h
            refine x_cv0 (x_runS C (As := [.int x2]) (rest := []) (c_X5_checkIsNotFixed_ok hg32) (cw_X5_move_X5_checkIsNotFixed_108 C) rfl (Nat.le_of_ble_eq_true rfl) dX5_move_32 ⟨Nat.zero_le _, Nat.zero_le _⟩) ?_
            refine x_aload C 4 dX5_move_35 rfl ?_
            refine x_iload_n C 2 dX5_move_37 rfl ?_
            refine x_iload_n C 1 dX5_move_38 rfl ?_
            obtain ⟨v39, hg39, h⟩ := ob h
            refine x_ci0 (x_runV C (As := [.int x3, .int x2]) (rest := []) (c_X4_isAtOrBelow hg39) (cw_X5_move_X4_isAtOrBelow_111 C) 0 rfl rfl rfl (Nat.le_of_ble_eq_true rfl) dX5_move_39 ⟨Nat.zero_le _, Nat.zero_le _⟩) ?_
            refine x_if_eq C (t := 55) dX5_move_42 (by decide) (fun c42 => ?_) (fun c42 => ?_)
            · replace h := (if_pos c42).symm.trans h
              refine x_aload C 4 dX5_move_55 rfl ?_
              refine x_iload_n C 2 dX5_move_57 rfl ?_
              refine x_iload C 3 dX5_move_58 rfl ?_
              refine x_iload_n C 1 dX5_move_60 rfl ?_
              obtain ⟨q61, hg61, h⟩ := ob h
              cases q61 with
              | zero =>
                replace h := (if_pos (c := (0 : Nat) = 0) rfl).symm.trans h
                refine x_cv0 (x_runS C (As := [.ref (ad 0), .int x3, .int x4, .int x2]) (rest := []) (c_X5_checkLabelIsFree_ok hg61) (cw_X5_move_X5_checkLabelIsFree_82 C) rfl (Nat.le_of_ble_eq_true rfl) dX5_move_61 ⟨Nat.zero_le _, Nat.zero_le _⟩) ?_
                refine x_aload C 4 dX5_move_64 rfl ?_
                refine x_iload_n C 1 dX5_move_66 rfl ?_
                obtain ⟨v67, hg67, h⟩ := ob h
                refine x_ci0 (x_runV C (As := [.int x2]) (rest := []) (c_X4_parentAt hg67) (cw_X5_move_X4_parentAt_116 C) 0 rfl rfl rfl (Nat.le_of_ble_eq_true rfl) dX5_move_67 ⟨Nat.zero_le _, Nat.zero_le _⟩) ?_
                refine x_istore C (lv' := [(0, .ref (ad 32)), (2, .int x2), (3, .int x3), (4, .int x4), (5, .ref (ad 0)), (6, .int v67)]) dX5_move_70 (by decide) rfl ?_
                refine x_aload C 4 dX5_move_72 rfl ?_
                refine x_aload_n C 0 dX5_move_74 rfl ?_
                refine x_get C (R' := RX5) (T := TX5) (N := 6) (ci := 5) 32 1 rfl rfl (by decide) rfl rfl hi_X5_move_5 lk_X5_move_19 dX5_move_75 ?_
                refine x_iconst C (v := 2) dX5_move_78 (by decide) ?_
                refine x_aload C 4 dX5_move_79 rfl ?_
                obtain ⟨v81, hg81, h⟩ := ob h
                refine x_ci0 (x_runV C (As := []) (rest := [.int 2, .ref (ad 14), .ref (ad 0)]) (c_X4_stampOfNext hg81) (cw_X5_move_X4_stampOfNext_86 C) 0 rfl rfl rfl (Nat.le_of_ble_eq_true rfl) dX5_move_81 ⟨Nat.zero_le _, Nat.zero_le _⟩) ?_
                refine x_iload_n C 1 dX5_move_84 rfl ?_
                refine x_iload_n C 2 dX5_move_85 rfl ?_
                refine x_iload C 3 dX5_move_86 rfl ?_
                refine x_iconst C (v := (-1)) dX5_move_88 (by decide) ?_
                obtain ⟨⟨v89, S89⟩, hg89, h⟩ := ob h
                refine x_ci0 (x_runV C (As := [.int 2, .int v81, .int x2, .int x3, .int x4, .int (-1)]) (rest := [.ref (ad 0)]) (c_X2_append hg89) (cw_X5_move_X2_append_90 C) 14 rfl rfl rfl (Nat.le_of_ble_eq_true rfl) dX5_move_89 ⟨Nat.zero_le _, Nat.zero_le _⟩) ?_
                refine x_locals (lv' := [(6, .int v67)]) [5] rfl ?_
                exact X_X5_move_b92 C T h
              | succ q61 =>
                replace h := (if_neg (Nat.succ_ne_zero q61)).symm.trans h
                obtain rfl := Option.some.inj h
                exact x_cx C (T (Nat.succ_ne_zero _)) (x_runSX C (T (Nat.succ_ne_zero _)).2.2 (As := [.ref (ad 0), .int x3, .int x4, .int x2]) (rest := []) (c_X5_checkLabelIsFree_th (T (Nat.succ_ne_zero _)).1 hg61) (cw_X5_move_X5_checkLabelIsFree_82_th C) rfl (Nat.le_of_ble_eq_true rfl) dX5_move_61 ⟨Nat.le_refl _, Nat.le_refl _⟩)
            · replace h := (if_neg c42).symm.trans h
              obtain rfl := Option.some.inj h
              exact x_throw C (T (Nat.succ_ne_zero _)) (kk := 2) rfl (st_mem 2 rfl) thr_X5_move_2_k thr_X5_move_2_i thr_X5_move_2_a thr_X5_move_2_b thr_X5_move_2_g (by decide +kernel) dX5_move_45 dX5_move_48 dX5_move_49 dX5_move_51 dX5_move_54 (lt_ble rfl) (Nat.le_of_ble_eq_true rfl) (Nat.le_refl _) (Nat.le_refl _)
          | succ q32 =>
            replace h := (if_neg (Nat.succ_ne_zero q32)).symm.trans h
            obtain rfl := Option.some.inj h
            exact x_cx C (T (Nat.succ_ne_zero _)) (x_runSX C (T (Nat.succ_ne_zero _)).2.2 (As := [.int x2]) (rest := []) (c_X5_checkIsNotFixed_th (T (Nat.succ_ne_zero _)).1 hg32) (cw_X5_move_X5_checkIsNotFixed_108_th C) rfl (Nat.le_of_ble_eq_true rfl) dX5_move_32 ⟨Nat.le_refl _, Nat.le_refl _⟩)
        | succ q28 =>
          replace h := (if_neg (Nat.succ_ne_zero q28)).symm.trans h
          obtain rfl := Option.some.inj h
          exact x_cx C (T (Nat.succ_ne_zero _)) (x_runVX C (T (Nat.succ_ne_zero _)).2.2 (As := []) (rest := []) (c_X5_checkRoomForChange_th (T (Nat.succ_ne_zero _)).1 hg28) (cw_X5_move_X5_checkRoomForChange_79_th C) 32 rfl rfl rfl (Nat.le_of_ble_eq_true rfl) dX5_move_28 ⟨Nat.le_refl _, Nat.le_refl _⟩)
      | succ q24 =>
        replace h := (if_neg (Nat.succ_ne_zero q24)).symm.trans h
        obtain rfl := Option.some.inj h
        exact x_cx C (T (Nat.succ_ne_zero _)) (x_runSX C (T (Nat.succ_ne_zero _)).2.2 (As := [.int x4, .int 0, .int 99]) (rest := []) (c_X5_checkArgument_th (T (Nat.succ_ne_zero _)).1 hg24) (cw_X5_move_X5_checkArgument_53_th C) rfl (Nat.le_of_ble_eq_true rfl) dX5_move_24 ⟨Nat.le_refl _, Nat.le_refl _⟩)
    | succ q16 =>
      replace h := (if_neg (Nat.succ_ne_zero q16)).symm.trans h
      obtain rfl := Option.some.inj h
      exact x_cx C (T (Nat.succ_ne_zero _)) (x_runSX C (T (Nat.succ_ne_zero _)).2.2 (As := [.ref (ad 0), .int x3]) (rest := []) (c_X5_checkEntry_th (T (Nat.succ_ne_zero _)).1 hg16) (cw_X5_move_X5_checkEntry_75_th C) rfl (Nat.le_of_ble_eq_true rfl) dX5_move_16 ⟨Nat.le_refl _, Nat.le_refl _⟩)
  | succ q10 =>
    replace h := (if_neg (Nat.succ_ne_zero q10)).symm.trans h
    obtain rfl := Option.some.inj h
    exact x_cx C (T (Nat.succ_ne_zero _)) (x_runSX C (T (Nat.succ_ne_zero _)).2.2 (As := [.ref (ad 0), .int x2]) (rest := []) (c_X5_checkEntry_th (T (Nat.succ_ne_zero _)).1 hg10) (cw_X5_move_X5_checkEntry_75_th C) rfl (Nat.le_of_ble_eq_true rfl) dX5_move_10 ⟨Nat.le_refl _, Nat.le_refl _⟩)
def X5_move (S : St) (x1 x2 x3 x4 : Int32) : Option (Nat × Int32 × St) :=
  (X5_treeOf S x1).bind fun q2 => if q2.1 = 0 then (bif q2.2 then ((X5_move_b5 (swS S) x2 x3 x4).map unz) else (X5_move_b5 S x2 x3 x4)) else some (q2.1, 0, S)
set_option maxHeartbeats 4000000 in
set_option maxRecDepth 100000 in
theorem X_X5_move {p : Program} {l : Launch} {e : Env} {s : State} {m : MethodId} {args : Array Value} {below : List Frame} {meth : Method} {c : Code} {D : va_G} {cI cZ cJ : ClassId} {ad : Nat → Nat} {rest w0 : va_W} {z : Nat × Int32 × St} (C : XC p (rm_X5_move z.1) s m args meth c cX5_move 7 (some .int) RX5 wsX5_move D (t3 cI cZ cJ)) (T : z.1 ≠ 0 → XT l s c w0) {S : St} {x1 x2 x3 x4 : Int32} (h : X5_move S x1 x2 x3 x4 = some z) : XW p l e (rm_X5_move z.1) s m args below meth c D w0 7 (QZ z.1 (MQ below (QI D (t3 cI cZ cJ) w0 (wE cI cZ ad z.2.2 (eo ad (ad 0) (ad 7) rest)) s.heap.size z.2.1) args s 0 0 (va_A w0 s.heap.size)) (fun q9 => vx_MQ below nQ (XX D (t3 cI cZ cJ) w0 (wE cI cZ ad z.2.2 (eo ad (ad 0) (ad 7) rest)) s.heap.size (exN q9)) args s 1 6 (va_A w0 s.heap.size))) (wE cI cZ ad S (eo ad (ad 0) (ad 7) rest)) 0 0 0 [(0, .ref (ad 32)), (1, .int x1), (2, .int x2), (3, .int x3), (4, .int x4)] [] := by
  unfold X5_move at h
  refine x_aload_n C 0 dX5_move_0 rfl ?_
  refine x_iload_n C 1 dX5_move_1 rfl ?_
  obtain ⟨⟨q2, b2⟩, hg2, h⟩ := ob h
  cases q2 with
  | zero =>
    replace h := (if_pos (c := (0 : Nat) = 0) rfl).symm.trans h
    refine x_cr0 (x_runV C (As := [.int x1]) (rest := []) (c_X5_treeOf_ok hg2) (cw_X5_move_X5_treeOf_71 C) 32 rfl rfl rfl (Nat.le_of_ble_eq_true rfl) dX5_move_2 ⟨Nat.zero_le _, Nat.zero_le _⟩) ?_
    refine x_locals (lv' := [(0, .ref (ad 32)), (2, .int x2), (3, .int x3), (4, .int x4)]) [0, 2, 3, 4] rfl ?_
    cases b2 with
    | false => exact X_X5_move_b5 (x := ad 0) (y := ad 7) C T h
    | true =>
      refine x_world (w' := wE cI cZ (swA ad) (swS S) (eo (swA ad) (ad 0) (ad 7) rest)) (wl_sw (D := D)).1 ((wl_sw (D := D)).2 _) ?_
      obtain ⟨z9, hz9, hz8⟩ := Option.map_eq_some_iff.mp h
      subst hz8
      exact x_mono (QZI.mono wl_unsw) (X_X5_move_b5 (ad := swA ad) (x := ad 0) (y := ad 7) (z := z9) C T hz9)
  | succ q2 =>
    replace h := (if_neg (Nat.succ_ne_zero q2)).symm.trans h
    obtain rfl := Option.some.inj h
    exact x_cx C (T (Nat.succ_ne_zero _)) (x_runVX C (T (Nat.succ_ne_zero _)).2.2 (As := [.int x1]) (rest := []) (c_X5_treeOf_th (T (Nat.succ_ne_zero _)).1 hg2) (cw_X5_move_X5_treeOf_71_th C) 32 rfl rfl rfl (Nat.le_of_ble_eq_true rfl) dX5_move_2 ⟨Nat.le_refl _, Nat.le_refl _⟩)
set_option maxRecDepth 100000 in
theorem c_X5_move_ok {l : Launch} {D : va_G} {cI cZ cJ : ClassId} {ad : Nat → Nat} {S : St} {rest : va_W} {x1 x2 x3 x4 : Int32} {v : Int32} {S' : St} (h : X5_move S x1 x2 x3 x4 = some (0, v, S')) : ∀ sz, Met l yX5_move wsX5_move (rm_X5_move 0) (PC D (t3 cI cZ cJ) [.ref (ad 32), .int x1, .int x2, .int x3, .int x4] (wE cI cZ ad S (eo ad (ad 0) (ad 7) rest)) sz) (QI D (t3 cI cZ cJ) (wE cI cZ ad S (eo ad (ad 0) (ad 7) rest)) (wE cI cZ ad S' (eo ad (ad 0) (ad 7) rest)) sz v) 0 0 (va_A (wE cI cZ ad S (eo ad (ad 0) (ad 7) rest)) sz) := by
  refine x_met (Qc := fun sz => QI D (t3 cI cZ cJ) (wE cI cZ ad S (eo ad (ad 0) (ad 7) rest)) (wE cI cZ ad S' (eo ad (ad 0) (ad 7) rest)) sz v) RX5 rfl (by decide) rfl (Nat.le_of_ble_eq_true rfl) (fun p e s m args below meth c C => ?_)
  exact X_X5_move (z := (0, v, S')) C (fun h9 => (h9 rfl).elim) h
set_option maxRecDepth 100000 in
theorem c_X5_move_th {l : Launch} {D : va_G} {cI cZ cJ : ClassId} {ad : Nat → Nat} {S : St} {rest : va_W} {x1 x2 x3 x4 : Int32} {v : Int32} {S' : St} {q : Nat} (hfl : l.stackTraces = false) (h : X5_move S x1 x2 x3 x4 = some ((q + 1), v, S')) : ∀ sz, vx_Met l yX5_move wsX5_move (rm_X5_move (q + 1)) (PX D (t3 cI cZ cJ) [.ref (ad 32), .int x1, .int x2, .int x3, .int x4] (wE cI cZ ad S (eo ad (ad 0) (ad 7) rest)) sz) nQ (XX D (t3 cI cZ cJ) (wE cI cZ ad S (eo ad (ad 0) (ad 7) rest)) (wE cI cZ ad S' (eo ad (ad 0) (ad 7) rest)) sz (exN q)) 1 6 (va_A (wE cI cZ ad S (eo ad (ad 0) (ad 7) rest)) sz) := by
  refine x_metX hfl (XCf := fun sz => XX D (t3 cI cZ cJ) (wE cI cZ ad S (eo ad (ad 0) (ad 7) rest)) (wE cI cZ ad S' (eo ad (ad 0) (ad 7) rest)) sz (exN q)) RX5 rfl (by decide) rfl (Nat.le_of_ble_eq_true rfl) (fun p e s m args below meth c C T => ?_)
  exact X_X5_move (z := (q + 1, v, S')) C (fun _ => T) h
/-! EntryMasters.delete(II)I -/
abbrev rm_X5_delete (kc : Nat) : Room := rmf 8 138 kc
theorem thr_X5_delete_2_k : Cond.classLink RX5 61 (exN 2) ∈ wsX5_delete := by decide +kernel
theorem thr_X5_delete_2_i : Cond.initialized (exN 2) ∈ wsX5_delete := by decide +kernel
theorem thr_X5_delete_2_a : ∀ z ∈ (vx_atS RX5 65 (exN 2) ["java/lang/RuntimeException", "java/lang/Exception"]).filter goodWord, z ∈ wsX5_delete := by decide +kernel
theorem thr_X5_delete_2_b : ∀ z ∈ (vx_atS RX5 65 (exN 2) ["java/lang/RuntimeException", "java/lang/Exception"]).filter (fun z => !goodWord z), z ∈ [Cond.castable (exN 2) (exN 2), Cond.declares (Bundle.initS (deN 0)), Cond.declares (Bundle.initS (deN 1)), Cond.declares (Bundle.initS (deN 2))] := by decide +kernel
theorem thr_X5_delete_2_g : ∀ z ∈ Cond.classLink RX5 61 (exN 2) :: Cond.initialized (exN 2) :: vx_atS RX5 65 (exN 2) ["java/lang/RuntimeException", "java/lang/Exception"], vx_ot z = true := by decide +kernel
theorem hi_X5_delete_4 : ∀ z ∈ u_ws RX4 TX4 11, z ∈ wsX5_delete := by decide +kernel
theorem hi_X5_delete_5 : ∀ z ∈ u_ws RX5 TX5 6, z ∈ wsX5_delete := by decide +kernel
theorem lk_X5_delete_19 : Cond.fieldLink RX5 19 RX5 "log" "LEntryMasters$Log;" ∈ wsX5_delete := by decide +kernel
theorem cw_X5_delete_X2_append_90 {p : Program} {s : State} {m : MethodId} {args : Array Value} {meth : Method} {c : Code} {D : va_G} {tys : List (ClassId × FieldType)} {R : Room} {kc : Nat} (C : XC p R s m args meth c cX5_delete 4 (some .int) RX5 wsX5_delete D tys) : CallW (rm_X5_delete kc) s args RX5 RX2 90 yX2_append cX2_append 8 (some .int) wsX2_append rm_X2_append 0 0 6 := cwV 6 C.2.2.2.2.1 gX5_delete_X2_append rfl rfl rfl (by decide +kernel) ⟨Nat.le_of_ble_eq_true rfl, Nat.le_of_ble_eq_true rfl⟩
theorem cw_X5_delete_X4_hasChild_120 {p : Program} {s : State} {m : MethodId} {args : Array Value} {meth : Method} {c : Code} {D : va_G} {tys : List (ClassId × FieldType)} {R : Room} {kc : Nat} (C : XC p R s m args meth c cX5_delete 4 (some .int) RX5 wsX5_delete D tys) : CallW (rm_X5_delete kc) s args RX5 RX4 120 yX4_hasChild cX4_hasChild 3 (some .boolean) wsX4_hasChild rm_X4_hasChild 0 0 1 := cwV 1 C.2.2.2.2.1 gX5_delete_X4_hasChild rfl rfl rfl (by decide +kernel) ⟨Nat.le_of_ble_eq_true rfl, Nat.le_of_ble_eq_true rfl⟩
theorem cw_X5_delete_X4_learn_94 {p : Program} {s : State} {m : MethodId} {args : Array Value} {meth : Method} {c : Code} {D : va_G} {tys : List (ClassId × FieldType)} {R : Room} {kc : Nat} (C : XC p R s m args meth c cX5_delete 4 (some .int) RX5 wsX5_delete D tys) : CallW (rm_X5_delete kc) s args RX5 RX4 94 yX4_learn cX4_learn 3 none wsX4_learn rm_X4_learn 0 0 1 := cwV 1 C.2.2.2.2.1 gX5_delete_X4_learn rfl rfl rfl (by decide +kernel) ⟨Nat.le_of_ble_eq_true rfl, Nat.le_of_ble_eq_true rfl⟩
theorem cw_X5_delete_X4_stampOfNext_86 {p : Program} {s : State} {m : MethodId} {args : Array Value} {meth : Method} {c : Code} {D : va_G} {tys : List (ClassId × FieldType)} {R : Room} {kc : Nat} (C : XC p R s m args meth c cX5_delete 4 (some .int) RX5 wsX5_delete D tys) : CallW (rm_X5_delete kc) s args RX5 RX4 86 yX4_stampOfNext cX4_stampOfNext 2 (some .int) wsX4_stampOfNext rm_X4_stampOfNext 0 0 0 := cwV 0 C.2.2.2.2.1 gX5_delete_X4_stampOfNext rfl rfl rfl (by decide +kernel) ⟨Nat.le_of_ble_eq_true rfl, Nat.le_of_ble_eq_true rfl⟩
theorem cw_X5_delete_X5_checkEntry_75 {p : Program} {s : State} {m : MethodId} {args : Array Value} {meth : Method} {c : Code} {D : va_G} {tys : List (ClassId × FieldType)} {R : Room} {kc : Nat} (C : XC p R s m args meth c cX5_delete 4 (some .int) RX5 wsX5_delete D tys) : CallB (rm_X5_delete kc) s args RX5 75 yX5_checkEntry cX5_checkEntry 2 none wsX5_checkEntry (rm_X5_checkEntry 0) 0 0 2 ∧ (Cond.static yX5_checkEntry).before args s = true := va_cwS 2 C.2.2.2.2.1 gX5_delete_X5_checkEntry rfl rfl rfl (by decide +kernel) ⟨Nat.le_of_ble_eq_true rfl, Nat.le_of_ble_eq_true rfl⟩
theorem cw_X5_delete_X5_checkEntry_75_th {p : Program} {s : State} {m : MethodId} {args : Array Value} {meth : Method} {c : Code} {D : va_G} {tys : List (ClassId × FieldType)} {R : Room} {kc : Nat} {q : Nat} (C : XC p R s m args meth c cX5_delete 4 (some .int) RX5 wsX5_delete D tys) : CallB (rm_X5_delete kc) s args RX5 75 yX5_checkEntry cX5_checkEntry 2 none wsX5_checkEntry (rm_X5_checkEntry (q + 1)) 1 6 2 ∧ (Cond.static yX5_checkEntry).before args s = true := va_cwS 2 C.2.2.2.2.1 gX5_delete_X5_checkEntry rfl rfl rfl (by decide +kernel) ⟨Nat.le_of_ble_eq_true rfl, Nat.le_of_ble_eq_true rfl⟩
theorem cw_X5_delete_X5_checkIsNotFixed_108 {p : Program} {s : State} {m : MethodId} {args : Array Value} {meth : Method} {c : Code} {D : va_G} {tys : List (ClassId × FieldType)} {R : Room} {kc : Nat} (C : XC p R s m args meth c cX5_delete 4 (some .int) RX5 wsX5_delete D tys) : CallB (rm_X5_delete kc) s args RX5 108 yX5_checkIsNotFixed cX5_checkIsNotFixed 1 none wsX5_checkIsNotFixed (rm_X5_checkIsNotFixed 0) 0 0 1 ∧ (Cond.static yX5_checkIsNotFixed).before args s = true := va_cwS 1 C.2.2.2.2.1 gX5_delete_X5_checkIsNotFixed rfl rfl rfl (by decide +kernel) ⟨Nat.le_of_ble_eq_true rfl, Nat.le_of_ble_eq_true rfl⟩
theorem cw_X5_delete_X5_checkIsNotFixed_108_th {p : Program} {s : State} {m : MethodId} {args : Array Value} {meth : Method} {c : Code} {D : va_G} {tys : List (ClassId × FieldType)} {R : Room} {kc : Nat} {q : Nat} (C : XC p R s m args meth c cX5_delete 4 (some .int) RX5 wsX5_delete D tys) : CallB (rm_X5_delete kc) s args RX5 108 yX5_checkIsNotFixed cX5_checkIsNotFixed 1 none wsX5_checkIsNotFixed (rm_X5_checkIsNotFixed (q + 1)) 1 6 1 ∧ (Cond.static yX5_checkIsNotFixed).before args s = true := va_cwS 1 C.2.2.2.2.1 gX5_delete_X5_checkIsNotFixed rfl rfl rfl (by decide +kernel) ⟨Nat.le_of_ble_eq_true rfl, Nat.le_of_ble_eq_true rfl⟩
theorem cw_X5_delete_X5_checkRoomForChange_79 {p : Program} {s : State} {m : MethodId} {args : Array Value} {meth : Method} {c : Code} {D : va_G} {tys : List (ClassId × FieldType)} {R : Room} {kc : Nat} (C : XC p R s m args meth c cX5_delete 4 (some .int) RX5 wsX5_delete D tys) : CallW (rm_X5_delete kc) s args RX5 RX5 79 yX5_checkRoomForChange cX5_checkRoomForChange 1 none wsX5_checkRoomForChange (rm_X5_checkRoomForChange 0) 0 0 0 := cwV 0 C.2.2.2.2.1 gX5_delete_X5_checkRoomForChange rfl rfl rfl (by decide +kernel) ⟨Nat.le_of_ble_eq_true rfl, Nat.le_of_ble_eq_true rfl⟩
theorem cw_X5_delete_X5_checkRoomForChange_79_th {p : Program} {s : State} {m : MethodId} {args : Array Value} {meth : Method} {c : Code} {D : va_G} {tys : List (ClassId × FieldType)} {R : Room} {kc : Nat} {q : Nat} (C : XC p R s m args meth c cX5_delete 4 (some .int) RX5 wsX5_delete D tys) : CallW (rm_X5_delete kc) s args RX5 RX5 79 yX5_checkRoomForChange cX5_checkRoomForChange 1 none wsX5_checkRoomForChange (rm_X5_checkRoomForChange (q + 1)) 1 6 0 := cwV 0 C.2.2.2.2.1 gX5_delete_X5_checkRoomForChange rfl rfl rfl (by decide +kernel) ⟨Nat.le_of_ble_eq_true rfl, Nat.le_of_ble_eq_true rfl⟩
theorem cw_X5_delete_X5_treeOf_71 {p : Program} {s : State} {m : MethodId} {args : Array Value} {meth : Method} {c : Code} {D : va_G} {tys : List (ClassId × FieldType)} {R : Room} {kc : Nat} (C : XC p R s m args meth c cX5_delete 4 (some .int) RX5 wsX5_delete D tys) : CallW (rm_X5_delete kc) s args RX5 RX5 71 yX5_treeOf cX5_treeOf 2 (some (.object "EntryMasters$Tree")) wsX5_treeOf (rm_X5_treeOf 0) 0 0 1 := cwV 1 C.2.2.2.2.1 gX5_delete_X5_treeOf rfl rfl rfl (by decide +kernel) ⟨Nat.le_of_ble_eq_true rfl, Nat.le_of_ble_eq_true rfl⟩
theorem cw_X5_delete_X5_treeOf_71_th {p : Program} {s : State} {m : MethodId} {args : Array Value} {meth : Method} {c : Code} {D : va_G} {tys : List (ClassId × FieldType)} {R : Room} {kc : Nat} {q : Nat} (C : XC p R s m args meth c cX5_delete 4 (some .int) RX5 wsX5_delete D tys) : CallW (rm_X5_delete kc) s args RX5 RX5 71 yX5_treeOf cX5_treeOf 2 (some (.object "EntryMasters$Tree")) wsX5_treeOf (rm_X5_treeOf (q + 1)) 1 6 1 := cwV 1 C.2.2.2.2.1 gX5_delete_X5_treeOf rfl rfl rfl (by decide +kernel) ⟨Nat.le_of_ble_eq_true rfl, Nat.le_of_ble_eq_true rfl⟩
def X5_delete_b57 (S : St) : Option (Nat × Int32 × St) :=
  some (0, (S 0 10), S)
set_option maxHeartbeats 4000000 in
set_option maxRecDepth 100000 in
theorem X_X5_delete_b57 {p : Program} {l : Launch} {e : Env} {s : State} {m : MethodId} {args : Array Value} {below : List Frame} {meth : Method} {c : Code} {D : va_G} {cI cZ cJ : ClassId} {ad : Nat → Nat} {rest w0 : va_W} {x y : Nat} {z : Nat × Int32 × St} (C : XC p (rm_X5_delete z.1) s m args meth c cX5_delete 4 (some .int) RX5 wsX5_delete D (t3 cI cZ cJ)) (T : z.1 ≠ 0 → XT l s c w0) {S : St} (h : X5_delete_b57 S = some z) : XW p l e (rm_X5_delete z.1) s m args below meth c D w0 4 (QZ z.1 (MQ below (QI D (t3 cI cZ cJ) w0 (wE cI cZ ad z.2.2 (eo ad x y rest)) s.heap.size z.2.1) args s 0 0 (va_A w0 s.heap.size)) (fun q9 => vx_MQ below nQ (XX D (t3 cI cZ cJ) w0 (wE cI cZ ad z.2.2 (eo ad x y rest)) s.heap.size (exN q9)) args s 1 6 (va_A w0 s.heap.size))) (wE cI cZ ad S (eo ad x y rest)) 0 0 57 [(3, .ref (ad 0))] [] := by
  unfold X5_delete_b57 at h
  refine x_aload_n C 0 dX5_delete_57 rfl ?_
  refine x_getN C (R' := RX4) (T := TX4) (N := 11) (ci := 4) 0 10 rfl rfl (by decide) rfl rfl hi_X5_delete_4 (nf_mem 0 rfl) dX5_delete_58 ?_
  obtain rfl := Option.some.inj h
  exact x_iret C (v := (S 0 10)) dX5_delete_61
def X5_delete_b54 (S : St) (s0 : Int32) : Option (Nat × Int32 × St) :=
  (X4_learn S s0).bind fun S54 => X5_delete_b57 S54
set_option maxHeartbeats 4000000 in
set_option maxRecDepth 100000 in
theorem X_X5_delete_b54 {p : Program} {l : Launch} {e : Env} {s : State} {m : MethodId} {args : Array Value} {below : List Frame} {meth : Method} {c : Code} {D : va_G} {cI cZ cJ : ClassId} {ad : Nat → Nat} {rest w0 : va_W} {x y : Nat} {z : Nat × Int32 × St} (C : XC p (rm_X5_delete z.1) s m args meth c cX5_delete 4 (some .int) RX5 wsX5_delete D (t3 cI cZ cJ)) (T : z.1 ≠ 0 → XT l s c w0) {S : St} {s0 : Int32} (h : X5_delete_b54 S s0 = some z) : XW p l e (rm_X5_delete z.1) s m args below meth c D w0 4 (QZ z.1 (MQ below (QI D (t3 cI cZ cJ) w0 (wE cI cZ ad z.2.2 (eo ad x y rest)) s.heap.size z.2.1) args s 0 0 (va_A w0 s.heap.size)) (fun q9 => vx_MQ below nQ (XX D (t3 cI cZ cJ) w0 (wE cI cZ ad z.2.2 (eo ad x y rest)) s.heap.size (exN q9)) args s 1 6 (va_A w0 s.heap.size))) (wE cI cZ ad S (eo ad x y rest)) 0 0 54 [(3, .ref (ad 0))] [.int s0, .ref (ad 0)] := by
  unfold X5_delete_b54 at h
  obtain ⟨S54, hg54, h⟩ := ob h
  refine x_cv0 (x_runV C (As := [.int s0]) (rest := []) (c_X4_learn hg54) (cw_X5_delete_X4_learn_94 C) 0 rfl rfl rfl (Nat.le_of_ble_eq_true rfl) dX5_delete_54 ⟨Nat.zero_le _, Nat.zero_le _⟩) ?_
  exact X_X5_delete_b57 C T h
def X5_delete_b5 (S : St) (x2 : Int32) : Option (Nat × Int32 × St) :=
  (X5_checkEntry S x2).bind fun q8 => if q8 = 0 then ((X5_checkRoomForChange S).bind fun q12 => if q12 = 0 then ((X5_checkIsNotFixed x2).bind fun q16 => if q16 = 0 then ((X4_hasChild S x2).bind fun v21 => if v21 = 0 then ((X4_stampOfNext S).bind fun v44 => (X2_append S 3 v44 x2 (-1) (-1) (-1)).bind fun q51 => X5_delete_b54 q51.2 q51.1) else (some (3, 0, S))) else some (q16, 0, S)) else some (q12, 0, S)) else some (q8, 0, S)
set_option maxHeartbeats 4000000 in
set_option maxRecDepth 100000 in
theorem X_X5_delete_b5 {p : Program} {l : Launch} {e : Env} {s : State} {m : MethodId} {args : Array Value} {below : List Frame} {meth : Method} {c : Code} {D : va_G} {cI cZ cJ : ClassId} {ad : Nat → Nat} {rest w0 : va_W} {x y : Nat} {z : Nat × Int32 × St} (C : XC p (rm_X5_delete z.1) s m args meth c cX5_delete 4 (some .int) RX5 wsX5_delete D (t3 cI cZ cJ)) (T : z.1 ≠ 0 → XT l s c w0) {S : St} {x2 : Int32} (h : X5_delete_b5 S x2 = some z) : XW p l e (rm_X5_delete z.1) s m args below meth c D w0 4 (QZ z.1 (MQ below (QI D (t3 cI cZ cJ) w0 (wE cI cZ ad z.2.2 (eo ad x y rest)) s.heap.size z.2.1) args s 0 0 (va_A w0 s.heap.size)) (fun q9 => vx_MQ below nQ (XX D (t3 cI cZ cJ) w0 (wE cI cZ ad z.2.2 (eo ad x y rest)) s.heap.size (exN q9)) args s 1 6 (va_A w0 s.heap.size))) (wE cI cZ ad S (eo ad x y rest)) 0 0 5 [(0, .ref (ad 32)), (2, .int x2)] [.ref (ad 0)] := by
  unfold X5_delete_b5 at h
  refine x_astore_n C (lv' := [(0, .ref (ad 32)), (2, .int x2), (3, .ref (ad 0))]) dX5_delete_5 (by decide) rfl ?_
  refine x_aload_n C 2 dX5_delete_6 rfl ?_
  refine x_iload_n C 1 dX5_delete_7 rfl ?_
  obtain ⟨q8, hg8, h⟩ := ob h
  cases q8 with
  | zero =>
    replace h := (if_pos (c := (0 : Nat) = 0) rfl).symm.trans h
    refine x_cv0 (x_runS C (As := [.ref (ad 0), .int x2]) (rest := []) (c_X5_checkEntry_ok hg8) (cw_X5_delete_X5_checkEntry_75 C) rfl (Nat.le_of_ble_eq_true rfl) dX5_delete_8 ⟨Nat.zero_le _, Nat.zero_le _⟩) ?_
    refine x_aload_n C 0 dX5_delete_11 rfl ?_
    obtain ⟨q12, hg12, h⟩ := ob h
    cases q12 with
    | zero =>
      replace h := (if_pos (c := (0 : Nat) = 0) rfl).symm.trans h
      refine x_cv0 (x_runV C (As := []) (rest := []) (c_X5_checkRoomForChange_ok hg12) (cw_X5_delete_X5_checkRoomForChange_79 C) 32 rfl rfl rfl (Nat.le_of_ble_eq_true rfl) dX5_delete_12 ⟨Nat.zero_le _, Nat.zero_le _⟩) ?_
      refine x_iload_n C 1 dX5_delete_15 rfl ?_
      obtain ⟨q16, hg16, h⟩ := ob h
      cases q16 with
      | zero =>
        replace h := (if_pos (c := (0 : Nat) = 0) rfl).symm.trans h
        refine x_cv0 (x_runS C (As := [.int x2]) (rest := []) (c_X5_checkIsNotFixed_ok hg16) (cw_X5_delete_X5_checkIsNotFixed_108 C) rfl (Nat.le_of_ble_eq_true rfl) dX5_delete_16 ⟨Nat.zero_le _, Nat.zero_le _⟩) ?_
        refine x_aload_n C 2 dX5_delete_19 rfl ?_
        refine x_iload_n C 1 dX5_delete_20 rfl ?_
        obtain ⟨v21, hg21, h⟩ := ob h
        refine x_ci0 (x_runV C (As := [.int x2]) (rest := []) (c_X4_hasChild hg21) (cw_X5_delete_X4_hasChild_120 C) 0 rfl rfl rfl (Nat.le_of_ble_eq_true rfl) dX5_delete_21 ⟨Nat.zero_le _, Nat.zero_le _⟩) ?_
        refine x_if_eq C (t := 37) dX5_delete_24 (by decide) (fun c24 => ?_) (fun c24 => ?_)
        · replace h := (if_pos c24).symm.trans h
          refine x_aload_n C 2 dX5_delete_37 rfl ?_
          refine x_aload_n C 0 dX5_delete_38 rfl ?_
          refine x_get C (R' := RX5) (T := TX5) (N := 6) (ci := 5) 32 1 rfl rfl (by decide) rfl rfl hi_X5_delete_5 lk_X5_delete_19 dX5_delete_39 ?_
          refine x_iconst C (v := 3) dX5_delete_42 (by decide) ?_
          refine x_aload_n C 2 dX5_delete_43 rfl ?_
          obtain ⟨v44, hg44, h⟩ := ob h
          refine x_ci0 (x_runV C (As := []) (rest := [.int 3, .ref (ad 14), .ref (ad 0)]) (c_X4_stampOfNext hg44) (cw_X5_delete_X4_stampOfNext_86 C) 0 rfl rfl rfl (Nat.le_of_ble_eq_true rfl) dX5_delete_44 ⟨Nat.zero_le _, Nat.zero_le _⟩) ?_
          refine x_iload_n C 1 dX5_delete_47 rfl ?_
          refine x_iconst C (v := (-1)) dX5_delete_48 (by decide) ?_
          refine x_iconst C (v := (-1)) dX5_delete_49 (by decide) ?_
          refine x_iconst C (v := (-1)) dX5_delete_50 (by decide) ?_
          obtain ⟨⟨v51, S51⟩, hg51, h⟩ := ob h
          refine x_ci0 (x_runV C (As := [.int 3, .int v44, .int x2, .int (-1), .int (-1), .int (-1)]) (rest := [.ref (ad 0)]) (c_X2_append hg51) (cw_X5_delete_X2_append_90 C) 14 rfl rfl rfl (Nat.le_of_ble_eq_true rfl) dX5_delete_51 ⟨Nat.zero_le _, Nat.zero_le _⟩) ?_
          refine x_locals (lv' := [(3, .ref (ad 0))]) [2] rfl ?_
          exact X_X5_delete_b54 C T h
        · replace h := (if_neg c24).symm.trans h
          obtain rfl := Option.some.inj h
          exact x_throw C (T (Nat.succ_ne_zero _)) (kk := 2) rfl (st_mem 3 rfl) thr_X5_delete_2_k thr_X5_delete_2_i thr_X5_delete_2_a thr_X5_delete_2_b thr_X5_delete_2_g (by decide +kernel) dX5_delete_27 dX5_delete_30 dX5_delete_31 dX5_delete_33 dX5_delete_36 (lt_ble rfl) (Nat.le_of_ble_eq_true rfl) (Nat.le_refl _) (Nat.le_refl _)
      | succ q16 =>
        replace h := (if_neg (Nat.succ_ne_zero q16)).symm.trans h
        obtain rfl := Option.some.inj h
        exact x_cx C (T (Nat.succ_ne_zero _)) (x_runSX C (T (Nat.succ_ne_zero _)).2.2 (As := [.int x2]) (rest := []) (c_X5_checkIsNotFixed_th (T (Nat.succ_ne_zero _)).1 hg16) (cw_X5_delete_X5_checkIsNotFixed_108_th C) rfl (Nat.le_of_ble_eq_true rfl) dX5_delete_16 ⟨Nat.le_refl _, Nat.le_refl _⟩)
    | succ q12 =>
      replace h := (if_neg (Nat.succ_ne_zero q12)).symm.trans h
      obtain rfl := Option.some.inj h
      exact x_cx C (T (Nat.succ_ne_zero _)) (x_runVX C (T (Nat.succ_ne_zero _)).2.2 (As := []) (rest := []) (c_X5_checkRoomForChange_th (T (Nat.succ_ne_zero _)).1 hg12) (cw_X5_delete_X5_checkRoomForChange_79_th C) 32 rfl rfl rfl (Nat.le_of_ble_eq_true rfl) dX5_delete_12 ⟨Nat.le_refl _, Nat.le_refl _⟩)
  | succ q8 =>
    replace h := (if_neg (Nat.succ_ne_zero q8)).symm.trans h
    obtain rfl := Option.some.inj h
    exact x_cx C (T (Nat.succ_ne_zero _)) (x_runSX C (T (Nat.succ_ne_zero _)).2.2 (As := [.ref (ad 0), .int x2]) (rest := []) (c_X5_checkEntry_th (T (Nat.succ_ne_zero _)).1 hg8) (cw_X5_delete_X5_checkEntry_75_th C) rfl (Nat.le_of_ble_eq_true rfl) dX5_delete_8 ⟨Nat.le_refl _, Nat.le_refl _⟩)
def X5_delete (S : St) (x1 x2 : Int32) : Option (Nat × Int32 × St) :=
  (X5_treeOf S x1).bind fun q2 => if q2.1 = 0 then (bif q2.2 then ((X5_delete_b5 (swS S) x2).map unz) else (X5_delete_b5 S x2)) else some (q2.1, 0, S)
set_option maxHeartbeats 4000000 in
set_option maxRecDepth 100000 in
theorem X_X5_delete {p : Program} {l : Launch} {e : Env} {s : State} {m : MethodId} {args : Array Value} {below : List Frame} {meth : Method} {c : Code} {D : va_G} {cI cZ cJ : ClassId} {ad : Nat → Nat} {rest w0 : va_W} {z : Nat × Int32 × St} (C : XC p (rm_X5_delete z.1) s m args meth c cX5_delete 4 (some .int) RX5 wsX5_delete D (t3 cI cZ cJ)) (T : z.1 ≠ 0 → XT l s c w0) {S : St} {x1 x2 : Int32} (h : X5_delete S x1 x2 = some z) : XW p l e (rm_X5_delete z.1) s m args below meth c D w0 4 (QZ z.1 (MQ below (QI D (t3 cI cZ cJ) w0 (wE cI cZ ad z.2.2 (eo ad (ad 0) (ad 7) rest)) s.heap.size z.2.1) args s 0 0 (va_A w0 s.heap.size)) (fun q9 => vx_MQ below nQ (XX D (t3 cI cZ cJ) w0 (wE cI cZ ad z.2.2 (eo ad (ad 0) (ad 7) rest)) s.heap.size (exN q9)) args s 1 6 (va_A w0 s.heap.size))) (wE cI cZ ad S (eo ad (ad 0) (ad 7) rest)) 0 0 0 [(0, .ref (ad 32)), (1, .int x1), (2, .int x2)] [] := by
  unfold X5_delete at h
  refine x_aload_n C 0 dX5_delete_0 rfl ?_
  refine x_iload_n C 1 dX5_delete_1 rfl ?_
  obtain ⟨⟨q2, b2⟩, hg2, h⟩ := ob h
  cases q2 with
  | zero =>
    replace h := (if_pos (c := (0 : Nat) = 0) rfl).symm.trans h
    refine x_cr0 (x_runV C (As := [.int x1]) (rest := []) (c_X5_treeOf_ok hg2) (cw_X5_delete_X5_treeOf_71 C) 32 rfl rfl rfl (Nat.le_of_ble_eq_true rfl) dX5_delete_2 ⟨Nat.zero_le _, Nat.zero_le _⟩) ?_
    refine x_locals (lv' := [(0, .ref (ad 32)), (2, .int x2)]) [0, 2] rfl ?_
    cases b2 with
    | false => exact X_X5_delete_b5 (x := ad 0) (y := ad 7) C T h
    | true =>
      refine x_world (w' := wE cI cZ (swA ad) (swS S) (eo (swA ad) (ad 0) (ad 7) rest)) (wl_sw (D := D)).1 ((wl_sw (D := D)).2 _) ?_
      obtain ⟨z9, hz9, hz8⟩ := Option.map_eq_some_iff.mp h
      subst hz8
      exact x_mono (QZI.mono wl_unsw) (X_X5_delete_b5 (ad := swA ad) (x := ad 0) (y := ad 7) (z := z9) C T hz9)
  | succ q2 =>
    replace h := (if_neg (Nat.succ_ne_zero q2)).symm.trans h
    obtain rfl := Option.some.inj h
    exact x_cx C (T (Nat.succ_ne_zero _)) (x_runVX C (T (Nat.succ_ne_zero _)).2.2 (As := [.int x1]) (rest := []) (c_X5_treeOf_th (T (Nat.succ_ne_zero _)).1 hg2) (cw_X5_delete_X5_treeOf_71_th C) 32 rfl rfl rfl (Nat.le_of_ble_eq_true rfl) dX5_delete_2 ⟨Nat.le_refl _, Nat.le_refl _⟩)
set_option maxRecDepth 100000 in
theorem c_X5_delete_ok {l : Launch} {D : va_G} {cI cZ cJ : ClassId} {ad : Nat → Nat} {S : St} {rest : va_W} {x1 x2 : Int32} {v : Int32} {S' : St} (h : X5_delete S x1 x2 = some (0, v, S')) : ∀ sz, Met l yX5_delete wsX5_delete (rm_X5_delete 0) (PC D (t3 cI cZ cJ) [.ref (ad 32), .int x1, .int x2] (wE cI cZ ad S (eo ad (ad 0) (ad 7) rest)) sz) (QI D (t3 cI cZ cJ) (wE cI cZ ad S (eo ad (ad 0) (ad 7) rest)) (wE cI cZ ad S' (eo ad (ad 0) (ad 7) rest)) sz v) 0 0 (va_A (wE cI cZ ad S (eo ad (ad 0) (ad 7) rest)) sz) := by
  refine x_met (Qc := fun sz => QI D (t3 cI cZ cJ) (wE cI cZ ad S (eo ad (ad 0) (ad 7) rest)) (wE cI cZ ad S' (eo ad (ad 0) (ad 7) rest)) sz v) RX5 rfl (by decide) rfl (Nat.le_of_ble_eq_true rfl) (fun p e s m args below meth c C => ?_)
  exact X_X5_delete (z := (0, v, S')) C (fun h9 => (h9 rfl).elim) h
set_option maxRecDepth 100000 in
theorem c_X5_delete_th {l : Launch} {D : va_G} {cI cZ cJ : ClassId} {ad : Nat → Nat} {S : St} {rest : va_W} {x1 x2 : Int32} {v : Int32} {S' : St} {q : Nat} (hfl : l.stackTraces = false) (h : X5_delete S x1 x2 = some ((q + 1), v, S')) : ∀ sz, vx_Met l yX5_delete wsX5_delete (rm_X5_delete (q + 1)) (PX D (t3 cI cZ cJ) [.ref (ad 32), .int x1, .int x2] (wE cI cZ ad S (eo ad (ad 0) (ad 7) rest)) sz) nQ (XX D (t3 cI cZ cJ) (wE cI cZ ad S (eo ad (ad 0) (ad 7) rest)) (wE cI cZ ad S' (eo ad (ad 0) (ad 7) rest)) sz (exN q)) 1 6 (va_A (wE cI cZ ad S (eo ad (ad 0) (ad 7) rest)) sz) := by
  refine x_metX hfl (XCf := fun sz => XX D (t3 cI cZ cJ) (wE cI cZ ad S (eo ad (ad 0) (ad 7) rest)) (wE cI cZ ad S' (eo ad (ad 0) (ad 7) rest)) sz (exN q)) RX5 rfl (by decide) rfl (Nat.le_of_ble_eq_true rfl) (fun p e s m args below meth c C T => ?_)
  exact X_X5_delete (z := (q + 1, v, S')) C (fun _ => T) h
/-! EntryMasters.carry(II)Z -/
abbrev rm_X5_carry (kc : Nat) : Room := rmf 8 138 kc
theorem hi_X5_carry_2 : ∀ z ∈ u_ws RX2 TX2 7, z ∈ wsX5_carry := by decide +kernel
theorem hi_X5_carry_5 : ∀ z ∈ u_ws RX5 TX5 6, z ∈ wsX5_carry := by decide +kernel
theorem lk_X5_carry_19 : Cond.fieldLink RX5 19 RX5 "log" "LEntryMasters$Log;" ∈ wsX5_carry := by decide +kernel
theorem cw_X5_carry_X4_knows_129 {p : Program} {s : State} {m : MethodId} {args : Array Value} {meth : Method} {c : Code} {D : va_G} {tys : List (ClassId × FieldType)} {R : Room} {kc : Nat} (C : XC p R s m args meth c cX5_carry 4 (some .boolean) RX5 wsX5_carry D tys) : CallW (rm_X5_carry kc) s args RX5 RX4 129 yX4_knows cX4_knows 3 (some .boolean) wsX4_knows rm_X4_knows 0 0 1 := cwV 1 C.2.2.2.2.1 gX5_carry_X4_knows rfl rfl rfl (by decide +kernel) ⟨Nat.le_of_ble_eq_true rfl, Nat.le_of_ble_eq_true rfl⟩
theorem cw_X5_carry_X4_learn_94 {p : Program} {s : State} {m : MethodId} {args : Array Value} {meth : Method} {c : Code} {D : va_G} {tys : List (ClassId × FieldType)} {R : Room} {kc : Nat} (C : XC p R s m args meth c cX5_carry 4 (some .boolean) RX5 wsX5_carry D tys) : CallW (rm_X5_carry kc) s args RX5 RX4 94 yX4_learn cX4_learn 3 none wsX4_learn rm_X4_learn 0 0 1 := cwV 1 C.2.2.2.2.1 gX5_carry_X4_learn rfl rfl rfl (by decide +kernel) ⟨Nat.le_of_ble_eq_true rfl, Nat.le_of_ble_eq_true rfl⟩
theorem cw_X5_carry_X5_checkIndex_49 {p : Program} {s : State} {m : MethodId} {args : Array Value} {meth : Method} {c : Code} {D : va_G} {tys : List (ClassId × FieldType)} {R : Room} {kc : Nat} (C : XC p R s m args meth c cX5_carry 4 (some .boolean) RX5 wsX5_carry D tys) : CallB (rm_X5_carry kc) s args RX5 49 yX5_checkIndex cX5_checkIndex 2 none wsX5_checkIndex (rm_X5_checkIndex 0) 0 0 2 ∧ (Cond.static yX5_checkIndex).before args s = true := va_cwS 2 C.2.2.2.2.1 gX5_carry_X5_checkIndex rfl rfl rfl (by decide +kernel) ⟨Nat.le_of_ble_eq_true rfl, Nat.le_of_ble_eq_true rfl⟩
theorem cw_X5_carry_X5_checkIndex_49_th {p : Program} {s : State} {m : MethodId} {args : Array Value} {meth : Method} {c : Code} {D : va_G} {tys : List (ClassId × FieldType)} {R : Room} {kc : Nat} {q : Nat} (C : XC p R s m args meth c cX5_carry 4 (some .boolean) RX5 wsX5_carry D tys) : CallB (rm_X5_carry kc) s args RX5 49 yX5_checkIndex cX5_checkIndex 2 none wsX5_checkIndex (rm_X5_checkIndex (q + 1)) 1 6 2 ∧ (Cond.static yX5_checkIndex).before args s = true := va_cwS 2 C.2.2.2.2.1 gX5_carry_X5_checkIndex rfl rfl rfl (by decide +kernel) ⟨Nat.le_of_ble_eq_true rfl, Nat.le_of_ble_eq_true rfl⟩
theorem cw_X5_carry_X5_treeOf_71 {p : Program} {s : State} {m : MethodId} {args : Array Value} {meth : Method} {c : Code} {D : va_G} {tys : List (ClassId × FieldType)} {R : Room} {kc : Nat} (C : XC p R s m args meth c cX5_carry 4 (some .boolean) RX5 wsX5_carry D tys) : CallW (rm_X5_carry kc) s args RX5 RX5 71 yX5_treeOf cX5_treeOf 2 (some (.object "EntryMasters$Tree")) wsX5_treeOf (rm_X5_treeOf 0) 0 0 1 := cwV 1 C.2.2.2.2.1 gX5_carry_X5_treeOf rfl rfl rfl (by decide +kernel) ⟨Nat.le_of_ble_eq_true rfl, Nat.le_of_ble_eq_true rfl⟩
theorem cw_X5_carry_X5_treeOf_71_th {p : Program} {s : State} {m : MethodId} {args : Array Value} {meth : Method} {c : Code} {D : va_G} {tys : List (ClassId × FieldType)} {R : Room} {kc : Nat} {q : Nat} (C : XC p R s m args meth c cX5_carry 4 (some .boolean) RX5 wsX5_carry D tys) : CallW (rm_X5_carry kc) s args RX5 RX5 71 yX5_treeOf cX5_treeOf 2 (some (.object "EntryMasters$Tree")) wsX5_treeOf (rm_X5_treeOf (q + 1)) 1 6 1 := cwV 1 C.2.2.2.2.1 gX5_carry_X5_treeOf rfl rfl rfl (by decide +kernel) ⟨Nat.le_of_ble_eq_true rfl, Nat.le_of_ble_eq_true rfl⟩
def X5_carry_b32 (S : St) : Option (Nat × Int32 × St) :=
  some (0, 1, S)
set_option maxHeartbeats 4000000 in
set_option maxRecDepth 100000 in
theorem X_X5_carry_b32 {p : Program} {l : Launch} {e : Env} {s : State} {m : MethodId} {args : Array Value} {below : List Frame} {meth : Method} {c : Code} {D : va_G} {cI cZ cJ : ClassId} {ad : Nat → Nat} {rest w0 : va_W} {x y : Nat} {z : Nat × Int32 × St} (C : XC p (rm_X5_carry z.1) s m args meth c cX5_carry 4 (some .boolean) RX5 wsX5_carry D (t3 cI cZ cJ)) (T : z.1 ≠ 0 → XT l s c w0) {S : St} (h : X5_carry_b32 S = some z) : XW p l e (rm_X5_carry z.1) s m args below meth c D w0 4 (QZ z.1 (MQ below (QI D (t3 cI cZ cJ) w0 (wE cI cZ ad z.2.2 (eo ad x y rest)) s.heap.size z.2.1) args s 0 0 (va_A w0 s.heap.size)) (fun q9 => vx_MQ below nQ (XX D (t3 cI cZ cJ) w0 (wE cI cZ ad z.2.2 (eo ad x y rest)) s.heap.size (exN q9)) args s 1 6 (va_A w0 s.heap.size))) (wE cI cZ ad S (eo ad x y rest)) 0 0 32 [] [] := by
  unfold X5_carry_b32 at h
  refine x_iconst C (v := 1) dX5_carry_32 (by decide) ?_
  obtain rfl := Option.some.inj h
  exact x_zret C (v := 1) (by decide) dX5_carry_33
def X5_carry_b16 (S : St) (x1 : Int32) : Option (Nat × Int32 × St) :=
  (X4_knows S x1).bind fun v19 => if v19 = 0 then ((X4_learn S x1).bind fun S29 => X5_carry_b32 S29) else (some (0, 0, S))
set_option maxHeartbeats 4000000 in
set_option maxRecDepth 100000 in
theorem X_X5_carry_b16 {p : Program} {l : Launch} {e : Env} {s : State} {m : MethodId} {args : Array Value} {below : List Frame} {meth : Method} {c : Code} {D : va_G} {cI cZ cJ : ClassId} {ad : Nat → Nat} {rest w0 : va_W} {x y : Nat} {z : Nat × Int32 × St} (C : XC p (rm_X5_carry z.1) s m args meth c cX5_carry 4 (some .boolean) RX5 wsX5_carry D (t3 cI cZ cJ)) (T : z.1 ≠ 0 → XT l s c w0) {S : St} {x1 : Int32} (h : X5_carry_b16 S x1 = some z) : XW p l e (rm_X5_carry z.1) s m args below meth c D w0 4 (QZ z.1 (MQ below (QI D (t3 cI cZ cJ) w0 (wE cI cZ ad z.2.2 (eo ad x y rest)) s.heap.size z.2.1) args s 0 0 (va_A w0 s.heap.size)) (fun q9 => vx_MQ below nQ (XX D (t3 cI cZ cJ) w0 (wE cI cZ ad z.2.2 (eo ad x y rest)) s.heap.size (exN q9)) args s 1 6 (va_A w0 s.heap.size))) (wE cI cZ ad S (eo ad x y rest)) 0 0 16 [(1, .int x1)] [.ref (ad 0)] := by
  unfold X5_carry_b16 at h
  refine x_astore_n C (lv' := [(1, .int x1), (3, .ref (ad 0))]) dX5_carry_16 (by decide) rfl ?_
  refine x_aload_n C 1 dX5_carry_17 rfl ?_
  refine x_iload_n C 0 dX5_carry_18 rfl ?_
  obtain ⟨v19, hg19, h⟩ := ob h
  refine x_ci0 (x_runV C (As := [.int x1]) (rest := []) (c_X4_knows hg19) (cw_X5_carry_X4_knows_129 C) 0 rfl rfl rfl (Nat.le_of_ble_eq_true rfl) dX5_carry_19 ⟨Nat.zero_le _, Nat.zero_le _⟩) ?_
  refine x_if_eq C (t := 27) dX5_carry_22 (by decide) (fun c22 => ?_) (fun c22 => ?_)
  · replace h := (if_pos c22).symm.trans h
    refine x_aload_n C 1 dX5_carry_27 rfl ?_
    refine x_iload_n C 0 dX5_carry_28 rfl ?_
    obtain ⟨S29, hg29, h⟩ := ob h
    refine x_cv0 (x_runV C (As := [.int x1]) (rest := []) (c_X4_learn hg29) (cw_X5_carry_X4_learn_94 C) 0 rfl rfl rfl (Nat.le_of_ble_eq_true rfl) dX5_carry_29 ⟨Nat.zero_le _, Nat.zero_le _⟩) ?_
    refine x_locals (lv' := []) [] rfl ?_
    exact X_X5_carry_b32 C T h
  · replace h := (if_neg c22).symm.trans h
    refine x_iconst C (v := 0) dX5_carry_25 (by decide) ?_
    obtain rfl := Option.some.inj h
    exact x_zret C (v := 0) (by decide) dX5_carry_26
def X5_carry (S : St) (x1 x2 : Int32) : Option (Nat × Int32 × St) :=
  (X5_checkIndex x1 (S 14 6)).bind fun q8 => if q8 = 0 then ((X5_treeOf S x2).bind fun q13 => if q13.1 = 0 then (bif q13.2 then ((X5_carry_b16 (swS S) x1).map unz) else (X5_carry_b16 S x1)) else some (q13.1, 0, S)) else some (q8, 0, S)
set_option maxHeartbeats 4000000 in
set_option maxRecDepth 100000 in
theorem X_X5_carry {p : Program} {l : Launch} {e : Env} {s : State} {m : MethodId} {args : Array Value} {below : List Frame} {meth : Method} {c : Code} {D : va_G} {cI cZ cJ : ClassId} {ad : Nat → Nat} {rest w0 : va_W} {z : Nat × Int32 × St} (C : XC p (rm_X5_carry z.1) s m args meth c cX5_carry 4 (some .boolean) RX5 wsX5_carry D (t3 cI cZ cJ)) (T : z.1 ≠ 0 → XT l s c w0) {S : St} {x1 x2 : Int32} (h : X5_carry S x1 x2 = some z) : XW p l e (rm_X5_carry z.1) s m args below meth c D w0 4 (QZ z.1 (MQ below (QI D (t3 cI cZ cJ) w0 (wE cI cZ ad z.2.2 (eo ad (ad 0) (ad 7) rest)) s.heap.size z.2.1) args s 0 0 (va_A w0 s.heap.size)) (fun q9 => vx_MQ below nQ (XX D (t3 cI cZ cJ) w0 (wE cI cZ ad z.2.2 (eo ad (ad 0) (ad 7) rest)) s.heap.size (exN q9)) args s 1 6 (va_A w0 s.heap.size))) (wE cI cZ ad S (eo ad (ad 0) (ad 7) rest)) 0 0 0 [(0, .ref (ad 32)), (1, .int x1), (2, .int x2)] [] := by
  unfold X5_carry at h
  refine x_iload_n C 1 dX5_carry_0 rfl ?_
  refine x_aload_n C 0 dX5_carry_1 rfl ?_
  refine x_get C (R' := RX5) (T := TX5) (N := 6) (ci := 5) 32 1 rfl rfl (by decide) rfl rfl hi_X5_carry_5 lk_X5_carry_19 dX5_carry_2 ?_
  refine x_getN C (R' := RX2) (T := TX2) (N := 7) (ci := 2) 14 6 rfl rfl (by decide) rfl rfl hi_X5_carry_2 (nf_mem 2 rfl) dX5_carry_5 ?_
  obtain ⟨q8, hg8, h⟩ := ob h
  cases q8 with
  | zero =>
    replace h := (if_pos (c := (0 : Nat) = 0) rfl).symm.trans h
    refine x_cv0 (x_runS C (As := [.int x1, .int (S 14 6)]) (rest := []) (c_X5_checkIndex_ok hg8) (cw_X5_carry_X5_checkIndex_49 C) rfl (Nat.le_of_ble_eq_true rfl) dX5_carry_8 ⟨Nat.zero_le _, Nat.zero_le _⟩) ?_
    refine x_aload_n C 0 dX5_carry_11 rfl ?_
    refine x_iload_n C 2 dX5_carry_12 rfl ?_
    obtain ⟨⟨q13, b13⟩, hg13, h⟩ := ob h
    cases q13 with
    | zero =>
      replace h := (if_pos (c := (0 : Nat) = 0) rfl).symm.trans h
      refine x_cr0 (x_runV C (As := [.int x2]) (rest := []) (c_X5_treeOf_ok hg13) (cw_X5_carry_X5_treeOf_71 C) 32 rfl rfl rfl (Nat.le_of_ble_eq_true rfl) dX5_carry_13 ⟨Nat.zero_le _, Nat.zero_le _⟩) ?_
      refine x_locals (lv' := [(1, .int x1)]) [1] rfl ?_
      cases b13 with
      | false => exact X_X5_carry_b16 (x := ad 0) (y := ad 7) C T h
      | true =>
        refine x_world (w' := wE cI cZ (swA ad) (swS S) (eo (swA ad) (ad 0) (ad 7) rest)) (wl_sw (D := D)).1 ((wl_sw (D := D)).2 _) ?_
        obtain ⟨z9, hz9, hz8⟩ := Option.map_eq_some_iff.mp h
        subst hz8
        exact x_mono (QZI.mono wl_unsw) (X_X5_carry_b16 (ad := swA ad) (x := ad 0) (y := ad 7) (z := z9) C T hz9)
    | succ q13 =>
      replace h := (if_neg (Nat.succ_ne_zero q13)).symm.trans h
      obtain rfl := Option.some.inj h
      exact x_cx C (T (Nat.succ_ne_zero _)) (x_runVX C (T (Nat.succ_ne_zero _)).2.2 (As := [.int x2]) (rest := []) (c_X5_treeOf_th (T (Nat.succ_ne_zero _)).1 hg13) (cw_X5_carry_X5_treeOf_71_th C) 32 rfl rfl rfl (Nat.le_of_ble_eq_true rfl) dX5_carry_13 ⟨Nat.le_refl _, Nat.le_refl _⟩)
  | succ q8 =>
    replace h := (if_neg (Nat.succ_ne_zero q8)).symm.trans h
    obtain rfl := Option.some.inj h
    exact x_cx C (T (Nat.succ_ne_zero _)) (x_runSX C (T (Nat.succ_ne_zero _)).2.2 (As := [.int x1, .int (S 14 6)]) (rest := []) (c_X5_checkIndex_th (T (Nat.succ_ne_zero _)).1 hg8) (cw_X5_carry_X5_checkIndex_49_th C) rfl (Nat.le_of_ble_eq_true rfl) dX5_carry_8 ⟨Nat.le_refl _, Nat.le_refl _⟩)
set_option maxRecDepth 100000 in
theorem c_X5_carry_ok {l : Launch} {D : va_G} {cI cZ cJ : ClassId} {ad : Nat → Nat} {S : St} {rest : va_W} {x1 x2 : Int32} {v : Int32} {S' : St} (h : X5_carry S x1 x2 = some (0, v, S')) : ∀ sz, Met l yX5_carry wsX5_carry (rm_X5_carry 0) (PC D (t3 cI cZ cJ) [.ref (ad 32), .int x1, .int x2] (wE cI cZ ad S (eo ad (ad 0) (ad 7) rest)) sz) (QI D (t3 cI cZ cJ) (wE cI cZ ad S (eo ad (ad 0) (ad 7) rest)) (wE cI cZ ad S' (eo ad (ad 0) (ad 7) rest)) sz v) 0 0 (va_A (wE cI cZ ad S (eo ad (ad 0) (ad 7) rest)) sz) := by
  refine x_met (Qc := fun sz => QI D (t3 cI cZ cJ) (wE cI cZ ad S (eo ad (ad 0) (ad 7) rest)) (wE cI cZ ad S' (eo ad (ad 0) (ad 7) rest)) sz v) RX5 rfl (by decide) rfl (Nat.le_of_ble_eq_true rfl) (fun p e s m args below meth c C => ?_)
  exact X_X5_carry (z := (0, v, S')) C (fun h9 => (h9 rfl).elim) h
set_option maxRecDepth 100000 in
theorem c_X5_carry_th {l : Launch} {D : va_G} {cI cZ cJ : ClassId} {ad : Nat → Nat} {S : St} {rest : va_W} {x1 x2 : Int32} {v : Int32} {S' : St} {q : Nat} (hfl : l.stackTraces = false) (h : X5_carry S x1 x2 = some ((q + 1), v, S')) : ∀ sz, vx_Met l yX5_carry wsX5_carry (rm_X5_carry (q + 1)) (PX D (t3 cI cZ cJ) [.ref (ad 32), .int x1, .int x2] (wE cI cZ ad S (eo ad (ad 0) (ad 7) rest)) sz) nQ (XX D (t3 cI cZ cJ) (wE cI cZ ad S (eo ad (ad 0) (ad 7) rest)) (wE cI cZ ad S' (eo ad (ad 0) (ad 7) rest)) sz (exN q)) 1 6 (va_A (wE cI cZ ad S (eo ad (ad 0) (ad 7) rest)) sz) := by
  refine x_metX hfl (XCf := fun sz => XX D (t3 cI cZ cJ) (wE cI cZ ad S (eo ad (ad 0) (ad 7) rest)) (wE cI cZ ad S' (eo ad (ad 0) (ad 7) rest)) sz (exN q)) RX5 rfl (by decide) rfl (Nat.le_of_ble_eq_true rfl) (fun p e s m args below meth c C T => ?_)
  exact X_X5_carry (z := (q + 1, v, S')) C (fun _ => T) h
/-! EntryMasters.changes()I -/
abbrev rm_X5_changes : Room := { frames := 0, cells := 0, slots := 0, locals := 0 }
theorem hi_X5_changes_2 : ∀ z ∈ u_ws RX2 TX2 7, z ∈ wsX5_changes := by decide +kernel
theorem hi_X5_changes_5 : ∀ z ∈ u_ws RX5 TX5 6, z ∈ wsX5_changes := by decide +kernel
theorem lk_X5_changes_19 : Cond.fieldLink RX5 19 RX5 "log" "LEntryMasters$Log;" ∈ wsX5_changes := by decide +kernel
def X5_changes (S : St) : Option (Int32) :=
  some (S 14 6)
set_option maxHeartbeats 4000000 in
set_option maxRecDepth 100000 in
theorem X_X5_changes {p : Program} {l : Launch} {e : Env} {s : State} {m : MethodId} {args : Array Value} {below : List Frame} {meth : Method} {c : Code} {D : va_G} {cI cZ cJ : ClassId} {ad : Nat → Nat} {rest w0 : va_W} {x y : Nat} (C : XC p rm_X5_changes s m args meth c cX5_changes 1 (some .int) RX5 wsX5_changes D (t3 cI cZ cJ)) {S : St} {r : Int32} (h : X5_changes S = some r) : XW p l e rm_X5_changes s m args below meth c D w0 1 (MQ below (QI D (t3 cI cZ cJ) w0 (wE cI cZ ad S (eo ad x y rest)) s.heap.size r) args s 0 0 (va_A w0 s.heap.size)) (wE cI cZ ad S (eo ad x y rest)) 0 0 0 [(0, .ref (ad 32))] [] := by
  unfold X5_changes at h
  refine x_aload_n C 0 dX5_changes_0 rfl ?_
  refine x_get C (R' := RX5) (T := TX5) (N := 6) (ci := 5) 32 1 rfl rfl (by decide) rfl rfl hi_X5_changes_5 lk_X5_changes_19 dX5_changes_1 ?_
  refine x_getN C (R' := RX2) (T := TX2) (N := 7) (ci := 2) 14 6 rfl rfl (by decide) rfl rfl hi_X5_changes_2 (nf_mem 2 rfl) dX5_changes_4 ?_
  obtain rfl := Option.some.inj h
  exact x_iret C dX5_changes_7
set_option maxRecDepth 100000 in
theorem c_X5_changes {l : Launch} {D : va_G} {cI cZ cJ : ClassId} {ad : Nat → Nat} {S : St} {rest : va_W} {x y : Nat} {r : Int32} (h : X5_changes S = some r) : ∀ sz, Met l yX5_changes wsX5_changes rm_X5_changes (PC D (t3 cI cZ cJ) [.ref (ad 32)] (wE cI cZ ad S (eo ad x y rest)) sz) (QI D (t3 cI cZ cJ) (wE cI cZ ad S (eo ad x y rest)) (wE cI cZ ad S (eo ad x y rest)) sz r) 0 0 (va_A (wE cI cZ ad S (eo ad x y rest)) sz) := by
  refine x_met (Qc := fun sz => QI D (t3 cI cZ cJ) (wE cI cZ ad S (eo ad x y rest)) (wE cI cZ ad S (eo ad x y rest)) sz r) RX5 rfl (by decide) rfl (Nat.le_of_ble_eq_true rfl) (fun p e s m args below meth c C => ?_)
  exact X_X5_changes C h
/-! EntryMasters.timeOf(I)I -/
abbrev rm_X5_timeOf (kc : Nat) : Room := rmf 7 103 kc
theorem hi_X5_timeOf_2 : ∀ z ∈ u_ws RX2 TX2 7, z ∈ wsX5_timeOf := by decide +kernel
theorem hi_X5_timeOf_5 : ∀ z ∈ u_ws RX5 TX5 6, z ∈ wsX5_timeOf := by decide +kernel
theorem lk_X5_timeOf_19 : Cond.fieldLink RX5 19 RX5 "log" "LEntryMasters$Log;" ∈ wsX5_timeOf := by decide +kernel
theorem cw_X5_timeOf_X2_timeAt_132 {p : Program} {s : State} {m : MethodId} {args : Array Value} {meth : Method} {c : Code} {D : va_G} {tys : List (ClassId × FieldType)} {R : Room} {kc : Nat} (C : XC p R s m args meth c cX5_timeOf 2 (some .int) RX5 wsX5_timeOf D tys) : CallW (rm_X5_timeOf kc) s args RX5 RX2 132 yX2_timeAt cX2_timeAt 2 (some .int) wsX2_timeAt rm_X2_timeAt 0 0 1 := cwV 1 C.2.2.2.2.1 gX5_timeOf_X2_timeAt rfl rfl rfl (by decide +kernel) ⟨Nat.le_of_ble_eq_true rfl, Nat.le_of_ble_eq_true rfl⟩
theorem cw_X5_timeOf_X5_checkIndex_49 {p : Program} {s : State} {m : MethodId} {args : Array Value} {meth : Method} {c : Code} {D : va_G} {tys : List (ClassId × FieldType)} {R : Room} {kc : Nat} (C : XC p R s m args meth c cX5_timeOf 2 (some .int) RX5 wsX5_timeOf D tys) : CallB (rm_X5_timeOf kc) s args RX5 49 yX5_checkIndex cX5_checkIndex 2 none wsX5_checkIndex (rm_X5_checkIndex 0) 0 0 2 ∧ (Cond.static yX5_checkIndex).before args s = true := va_cwS 2 C.2.2.2.2.1 gX5_timeOf_X5_checkIndex rfl rfl rfl (by decide +kernel) ⟨Nat.le_of_ble_eq_true rfl, Nat.le_of_ble_eq_true rfl⟩
theorem cw_X5_timeOf_X5_checkIndex_49_th {p : Program} {s : State} {m : MethodId} {args : Array Value} {meth : Method} {c : Code} {D : va_G} {tys : List (ClassId × FieldType)} {R : Room} {kc : Nat} {q : Nat} (C : XC p R s m args meth c cX5_timeOf 2 (some .int) RX5 wsX5_timeOf D tys) : CallB (rm_X5_timeOf kc) s args RX5 49 yX5_checkIndex cX5_checkIndex 2 none wsX5_checkIndex (rm_X5_checkIndex (q + 1)) 1 6 2 ∧ (Cond.static yX5_checkIndex).before args s = true := va_cwS 2 C.2.2.2.2.1 gX5_timeOf_X5_checkIndex rfl rfl rfl (by decide +kernel) ⟨Nat.le_of_ble_eq_true rfl, Nat.le_of_ble_eq_true rfl⟩
def X5_timeOf (S : St) (x1 : Int32) : Option (Nat × Int32) :=
  (X5_checkIndex x1 (S 14 6)).bind fun q8 => if q8 = 0 then ((X2_timeAt S x1).bind fun v16 => some (0, v16)) else some (q8, 0)
set_option maxHeartbeats 4000000 in
set_option maxRecDepth 100000 in
theorem X_X5_timeOf {p : Program} {l : Launch} {e : Env} {s : State} {m : MethodId} {args : Array Value} {below : List Frame} {meth : Method} {c : Code} {D : va_G} {cI cZ cJ : ClassId} {ad : Nat → Nat} {rest w0 : va_W} {x y : Nat} {z : Nat × Int32} (C : XC p (rm_X5_timeOf z.1) s m args meth c cX5_timeOf 2 (some .int) RX5 wsX5_timeOf D (t3 cI cZ cJ)) (T : z.1 ≠ 0 → XT l s c w0) {S : St} {x1 : Int32} (h : X5_timeOf S x1 = some z) : XW p l e (rm_X5_timeOf z.1) s m args below meth c D w0 2 (QZ z.1 (MQ below (QI D (t3 cI cZ cJ) w0 (wE cI cZ ad S (eo ad x y rest)) s.heap.size z.2) args s 0 0 (va_A w0 s.heap.size)) (fun q9 => vx_MQ below nQ (XX D (t3 cI cZ cJ) w0 (wE cI cZ ad S (eo ad x y rest)) s.heap.size (exN q9)) args s 1 6 (va_A w0 s.heap.size))) (wE cI cZ ad S (eo ad x y rest)) 0 0 0 [(0, .ref (ad 32)), (1, .int x1)] [] := by
  unfold X5_timeOf at h
  refine x_iload_n C 1 dX5_timeOf_0 rfl ?_
  refine x_aload_n C 0 dX5_timeOf_1 rfl ?_
  refine x_get C (R' := RX5) (T := TX5) (N := 6) (ci := 5) 32 1 rfl rfl (by decide) rfl rfl hi_X5_timeOf_5 lk_X5_timeOf_19 dX5_timeOf_2 ?_
  refine x_getN C (R' := RX2) (T := TX2) (N := 7) (ci := 2) 14 6 rfl rfl (by decide) rfl rfl hi_X5_timeOf_2 (nf_mem 2 rfl) dX5_timeOf_5 ?_
  obtain ⟨q8, hg8, h⟩ := ob h
  cases q8 with
  | zero =>
    replace h := (if_pos (c := (0 : Nat) = 0) rfl).symm.trans h
    refine x_cv0 (x_runS C (As := [.int x1, .int (S 14 6)]) (rest := []) (c_X5_checkIndex_ok hg8) (cw_X5_timeOf_X5_checkIndex_49 C) rfl (Nat.le_of_ble_eq_true rfl) dX5_timeOf_8 ⟨Nat.zero_le _, Nat.zero_le _⟩) ?_
    refine x_aload_n C 0 dX5_timeOf_11 rfl ?_
    refine x_get C (R' := RX5) (T := TX5) (N := 6) (ci := 5) 32 1 rfl rfl (by decide) rfl rfl hi_X5_timeOf_5 lk_X5_timeOf_19 dX5_timeOf_12 ?_
    refine x_iload_n C 1 dX5_timeOf_15 rfl ?_
    obtain ⟨v16, hg16, h⟩ := ob h
    refine x_ci0 (x_runV C (As := [.int x1]) (rest := []) (c_X2_timeAt hg16) (cw_X5_timeOf_X2_timeAt_132 C) 14 rfl rfl rfl (Nat.le_of_ble_eq_true rfl) dX5_timeOf_16 ⟨Nat.zero_le _, Nat.zero_le _⟩) ?_
    obtain rfl := Option.some.inj h
    exact x_iret C (v := v16) dX5_timeOf_19
  | succ q8 =>
    replace h := (if_neg (Nat.succ_ne_zero q8)).symm.trans h
    obtain rfl := Option.some.inj h
    exact x_cx C (T (Nat.succ_ne_zero _)) (x_runSX C (T (Nat.succ_ne_zero _)).2.2 (As := [.int x1, .int (S 14 6)]) (rest := []) (c_X5_checkIndex_th (T (Nat.succ_ne_zero _)).1 hg8) (cw_X5_timeOf_X5_checkIndex_49_th C) rfl (Nat.le_of_ble_eq_true rfl) dX5_timeOf_8 ⟨Nat.le_refl _, Nat.le_refl _⟩)
set_option maxRecDepth 100000 in
theorem c_X5_timeOf_ok {l : Launch} {D : va_G} {cI cZ cJ : ClassId} {ad : Nat → Nat} {S : St} {rest : va_W} {x y : Nat} {x1 : Int32} {v : Int32} (h : X5_timeOf S x1 = some (0, v)) : ∀ sz, Met l yX5_timeOf wsX5_timeOf (rm_X5_timeOf 0) (PC D (t3 cI cZ cJ) [.ref (ad 32), .int x1] (wE cI cZ ad S (eo ad x y rest)) sz) (QI D (t3 cI cZ cJ) (wE cI cZ ad S (eo ad x y rest)) (wE cI cZ ad S (eo ad x y rest)) sz v) 0 0 (va_A (wE cI cZ ad S (eo ad x y rest)) sz) := by
  refine x_met (Qc := fun sz => QI D (t3 cI cZ cJ) (wE cI cZ ad S (eo ad x y rest)) (wE cI cZ ad S (eo ad x y rest)) sz v) RX5 rfl (by decide) rfl (Nat.le_of_ble_eq_true rfl) (fun p e s m args below meth c C => ?_)
  exact X_X5_timeOf (z := (0, v)) C (fun h9 => (h9 rfl).elim) h
set_option maxRecDepth 100000 in
theorem c_X5_timeOf_th {l : Launch} {D : va_G} {cI cZ cJ : ClassId} {ad : Nat → Nat} {S : St} {rest : va_W} {x y : Nat} {x1 : Int32} {v : Int32} {q : Nat} (hfl : l.stackTraces = false) (h : X5_timeOf S x1 = some ((q + 1), v)) : ∀ sz, vx_Met l yX5_timeOf wsX5_timeOf (rm_X5_timeOf (q + 1)) (PX D (t3 cI cZ cJ) [.ref (ad 32), .int x1] (wE cI cZ ad S (eo ad x y rest)) sz) nQ (XX D (t3 cI cZ cJ) (wE cI cZ ad S (eo ad x y rest)) (wE cI cZ ad S (eo ad x y rest)) sz (exN q)) 1 6 (va_A (wE cI cZ ad S (eo ad x y rest)) sz) := by
  refine x_metX hfl (XCf := fun sz => XX D (t3 cI cZ cJ) (wE cI cZ ad S (eo ad x y rest)) (wE cI cZ ad S (eo ad x y rest)) sz (exN q)) RX5 rfl (by decide) rfl (Nat.le_of_ble_eq_true rfl) (fun p e s m args below meth c C T => ?_)
  exact X_X5_timeOf (z := (q + 1, v)) C (fun _ => T) h
/-! EntryMasters.entries(I)I -/
abbrev rm_X5_entries (kc : Nat) : Room := rmf 8 124 kc
theorem hi_X5_entries_4 : ∀ z ∈ u_ws RX4 TX4 11, z ∈ wsX5_entries := by decide +kernel
theorem cw_X5_entries_X5_treeOf_71 {p : Program} {s : State} {m : MethodId} {args : Array Value} {meth : Method} {c : Code} {D : va_G} {tys : List (ClassId × FieldType)} {R : Room} {kc : Nat} (C : XC p R s m args meth c cX5_entries 2 (some .int) RX5 wsX5_entries D tys) : CallW (rm_X5_entries kc) s args RX5 RX5 71 yX5_treeOf cX5_treeOf 2 (some (.object "EntryMasters$Tree")) wsX5_treeOf (rm_X5_treeOf 0) 0 0 1 := cwV 1 C.2.2.2.2.1 gX5_entries_X5_treeOf rfl rfl rfl (by decide +kernel) ⟨Nat.le_of_ble_eq_true rfl, Nat.le_of_ble_eq_true rfl⟩
theorem cw_X5_entries_X5_treeOf_71_th {p : Program} {s : State} {m : MethodId} {args : Array Value} {meth : Method} {c : Code} {D : va_G} {tys : List (ClassId × FieldType)} {R : Room} {kc : Nat} {q : Nat} (C : XC p R s m args meth c cX5_entries 2 (some .int) RX5 wsX5_entries D tys) : CallW (rm_X5_entries kc) s args RX5 RX5 71 yX5_treeOf cX5_treeOf 2 (some (.object "EntryMasters$Tree")) wsX5_treeOf (rm_X5_treeOf (q + 1)) 1 6 1 := cwV 1 C.2.2.2.2.1 gX5_entries_X5_treeOf rfl rfl rfl (by decide +kernel) ⟨Nat.le_of_ble_eq_true rfl, Nat.le_of_ble_eq_true rfl⟩
def X5_entries_b5 (S : St) : Option (Nat × Int32) :=
  some (0, (S 0 10))
set_option maxHeartbeats 4000000 in
set_option maxRecDepth 100000 in
theorem X_X5_entries_b5 {p : Program} {l : Launch} {e : Env} {s : State} {m : MethodId} {args : Array Value} {below : List Frame} {meth : Method} {c : Code} {D : va_G} {cI cZ cJ : ClassId} {ad : Nat → Nat} {rest w0 : va_W} {x y : Nat} {z : Nat × Int32} (C : XC p (rm_X5_entries z.1) s m args meth c cX5_entries 2 (some .int) RX5 wsX5_entries D (t3 cI cZ cJ)) (T : z.1 ≠ 0 → XT l s c w0) {S : St} (h : X5_entries_b5 S = some z) : XW p l e (rm_X5_entries z.1) s m args below meth c D w0 2 (QZ z.1 (MQ below (QI D (t3 cI cZ cJ) w0 (wE cI cZ ad S (eo ad x y rest)) s.heap.size z.2) args s 0 0 (va_A w0 s.heap.size)) (fun q9 => vx_MQ below nQ (XX D (t3 cI cZ cJ) w0 (wE cI cZ ad S (eo ad x y rest)) s.heap.size (exN q9)) args s 1 6 (va_A w0 s.heap.size))) (wE cI cZ ad S (eo ad x y rest)) 0 0 5 [] [.ref (ad 0)] := by
  unfold X5_entries_b5 at h
  refine x_getN C (R' := RX4) (T := TX4) (N := 11) (ci := 4) 0 10 rfl rfl (by decide) rfl rfl hi_X5_entries_4 (nf_mem 0 rfl) dX5_entries_5 ?_
  obtain rfl := Option.some.inj h
  exact x_iret C (v := (S 0 10)) dX5_entries_8
def X5_entries (S : St) (x1 : Int32) : Option (Nat × Int32) :=
  (X5_treeOf S x1).bind fun q2 => if q2.1 = 0 then (bif q2.2 then (X5_entries_b5 (swS S)) else (X5_entries_b5 S)) else some (q2.1, 0)
set_option maxHeartbeats 4000000 in
set_option maxRecDepth 100000 in
theorem X_X5_entries {p : Program} {l : Launch} {e : Env} {s : State} {m : MethodId} {args : Array Value} {below : List Frame} {meth : Method} {c : Code} {D : va_G} {cI cZ cJ : ClassId} {ad : Nat → Nat} {rest w0 : va_W} {z : Nat × Int32} (C : XC p (rm_X5_entries z.1) s m args meth c cX5_entries 2 (some .int) RX5 wsX5_entries D (t3 cI cZ cJ)) (T : z.1 ≠ 0 → XT l s c w0) {S : St} {x1 : Int32} (h : X5_entries S x1 = some z) : XW p l e (rm_X5_entries z.1) s m args below meth c D w0 2 (QZ z.1 (MQ below (QI D (t3 cI cZ cJ) w0 (wE cI cZ ad S (eo ad (ad 0) (ad 7) rest)) s.heap.size z.2) args s 0 0 (va_A w0 s.heap.size)) (fun q9 => vx_MQ below nQ (XX D (t3 cI cZ cJ) w0 (wE cI cZ ad S (eo ad (ad 0) (ad 7) rest)) s.heap.size (exN q9)) args s 1 6 (va_A w0 s.heap.size))) (wE cI cZ ad S (eo ad (ad 0) (ad 7) rest)) 0 0 0 [(0, .ref (ad 32)), (1, .int x1)] [] := by
  unfold X5_entries at h
  refine x_aload_n C 0 dX5_entries_0 rfl ?_
  refine x_iload_n C 1 dX5_entries_1 rfl ?_
  obtain ⟨⟨q2, b2⟩, hg2, h⟩ := ob h
  cases q2 with
  | zero =>
    replace h := (if_pos (c := (0 : Nat) = 0) rfl).symm.trans h
    refine x_cr0 (x_runV C (As := [.int x1]) (rest := []) (c_X5_treeOf_ok hg2) (cw_X5_entries_X5_treeOf_71 C) 32 rfl rfl rfl (Nat.le_of_ble_eq_true rfl) dX5_entries_2 ⟨Nat.zero_le _, Nat.zero_le _⟩) ?_
    refine x_locals (lv' := []) [] rfl ?_
    cases b2 with
    | false => exact X_X5_entries_b5 (x := ad 0) (y := ad 7) C T h
    | true =>
      refine x_world (w' := wE cI cZ (swA ad) (swS S) (eo (swA ad) (ad 0) (ad 7) rest)) (wl_sw (D := D)).1 ((wl_sw (D := D)).2 _) ?_
      exact x_mono (QZI.mono wl_unsw0) (X_X5_entries_b5 (ad := swA ad) (x := ad 0) (y := ad 7) C T h)
  | succ q2 =>
    replace h := (if_neg (Nat.succ_ne_zero q2)).symm.trans h
    obtain rfl := Option.some.inj h
    exact x_cx C (T (Nat.succ_ne_zero _)) (x_runVX C (T (Nat.succ_ne_zero _)).2.2 (As := [.int x1]) (rest := []) (c_X5_treeOf_th (T (Nat.succ_ne_zero _)).1 hg2) (cw_X5_entries_X5_treeOf_71_th C) 32 rfl rfl rfl (Nat.le_of_ble_eq_true rfl) dX5_entries_2 ⟨Nat.le_refl _, Nat.le_refl _⟩)
set_option maxRecDepth 100000 in
theorem c_X5_entries_ok {l : Launch} {D : va_G} {cI cZ cJ : ClassId} {ad : Nat → Nat} {S : St} {rest : va_W} {x1 : Int32} {v : Int32} (h : X5_entries S x1 = some (0, v)) : ∀ sz, Met l yX5_entries wsX5_entries (rm_X5_entries 0) (PC D (t3 cI cZ cJ) [.ref (ad 32), .int x1] (wE cI cZ ad S (eo ad (ad 0) (ad 7) rest)) sz) (QI D (t3 cI cZ cJ) (wE cI cZ ad S (eo ad (ad 0) (ad 7) rest)) (wE cI cZ ad S (eo ad (ad 0) (ad 7) rest)) sz v) 0 0 (va_A (wE cI cZ ad S (eo ad (ad 0) (ad 7) rest)) sz) := by
  refine x_met (Qc := fun sz => QI D (t3 cI cZ cJ) (wE cI cZ ad S (eo ad (ad 0) (ad 7) rest)) (wE cI cZ ad S (eo ad (ad 0) (ad 7) rest)) sz v) RX5 rfl (by decide) rfl (Nat.le_of_ble_eq_true rfl) (fun p e s m args below meth c C => ?_)
  exact X_X5_entries (z := (0, v)) C (fun h9 => (h9 rfl).elim) h
set_option maxRecDepth 100000 in
theorem c_X5_entries_th {l : Launch} {D : va_G} {cI cZ cJ : ClassId} {ad : Nat → Nat} {S : St} {rest : va_W} {x1 : Int32} {v : Int32} {q : Nat} (hfl : l.stackTraces = false) (h : X5_entries S x1 = some ((q + 1), v)) : ∀ sz, vx_Met l yX5_entries wsX5_entries (rm_X5_entries (q + 1)) (PX D (t3 cI cZ cJ) [.ref (ad 32), .int x1] (wE cI cZ ad S (eo ad (ad 0) (ad 7) rest)) sz) nQ (XX D (t3 cI cZ cJ) (wE cI cZ ad S (eo ad (ad 0) (ad 7) rest)) (wE cI cZ ad S (eo ad (ad 0) (ad 7) rest)) sz (exN q)) 1 6 (va_A (wE cI cZ ad S (eo ad (ad 0) (ad 7) rest)) sz) := by
  refine x_metX hfl (XCf := fun sz => XX D (t3 cI cZ cJ) (wE cI cZ ad S (eo ad (ad 0) (ad 7) rest)) (wE cI cZ ad S (eo ad (ad 0) (ad 7) rest)) sz (exN q)) RX5 rfl (by decide) rfl (Nat.le_of_ble_eq_true rfl) (fun p e s m args below meth c C T => ?_)
  exact X_X5_entries (z := (q + 1, v)) C (fun _ => T) h
