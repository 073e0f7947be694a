/-! the law's kind -/
def rm_L_kind (kc : Nat) : Room := rmf 8 127 kc
theorem cw_L_kind_X5_setClass {p : Program} {s : State} {m : MethodId} {args : Array Value} {meth : Method} {c : Code} {D : va_G} {tys : List (ClassId × FieldType)} {R : Room} {kc : Nat} (C : XC p R s m args meth c cL_kind 5 (some .int) RL wsL_kind D tys) : CallW (rm_L_kind kc) s args RL RX5 7 yX5_setClass cX5_setClass 4 none wsX5_setClass (rm_X5_setClass 0) 0 0 3 := cwV 3 C.2.2.2.2.1 gL_kind_X5_setClass rfl rfl rfl (by decide +kernel) ⟨Nat.le_of_ble_eq_true rfl, Nat.le_of_ble_eq_true rfl⟩
theorem cw_L_kind_X5_setClass_th {p : Program} {s : State} {m : MethodId} {args : Array Value} {meth : Method} {c : Code} {D : va_G} {tys : List (ClassId × FieldType)} {R : Room} {kc : Nat} {q : Nat} (C : XC p R s m args meth c cL_kind 5 (some .int) RL wsL_kind D tys) : CallW (rm_L_kind kc) s args RL RX5 7 yX5_setClass cX5_setClass 4 none wsX5_setClass (rm_X5_setClass (q + 1)) 1 6 3 := cwV 3 C.2.2.2.2.1 gL_kind_X5_setClass rfl rfl rfl (by decide +kernel) ⟨Nat.le_of_ble_eq_true rfl, Nat.le_of_ble_eq_true rfl⟩
theorem hk_L_kind_13 : Cond.classLink RL 13 (exN 0) ∈ wsL_kind := by decide +kernel
theorem hk_L_kind_15 : Cond.classLink RL 15 (exN 1) ∈ wsL_kind := by decide +kernel
theorem hk_L_kind_17 : Cond.classLink RL 17 (exN 2) ∈ wsL_kind := by decide +kernel
set_option maxHeartbeats 4000000 in
set_option maxRecDepth 100000 in
theorem c_L_kind_ok {l : Launch} {D : va_G} {cI cZ cJ : ClassId} {ad : Nat → Nat} {S : St} {rest : va_W} {x1 : Int32} {x2 : Int32} {x3 : Int32} {S' : St} (hfl : l.stackTraces = false) (h : X5_setClass S x1 x2 x3 = some (0, S')) : ∀ sz, Met l yL_kind wsL_kind (rm_L_kind 0) (PY D (t3 cI cZ cJ) [.ref (ad 32), .int x1, .int x2, .int x3] (wE cI cZ ad S (eo ad (ad 0) (ad 7) rest)) sz) (QI D (t3 cI cZ cJ) (wE cI cZ ad S (eo ad (ad 0) (ad 7) rest)) (wE cI cZ ad S' (eo ad (ad 0) (ad 7) rest)) sz 0) 0 0 (va_A (wE cI cZ ad S (eo ad (ad 0) (ad 7) rest)) sz) := by
  refine x_metH hfl (Qc := fun sz => QI D (t3 cI cZ cJ) (wE cI cZ ad S (eo ad (ad 0) (ad 7) rest)) (wE cI cZ ad S' (eo ad (ad 0) (ad 7) rest)) sz 0) RL rfl (by decide) rfl (Nat.le_of_ble_eq_true rfl) (fun p e s m args below meth c C T => ?_)
  refine x_aload_n C 0 dL_kind_0 rfl ?_
  refine x_iload_n C 1 dL_kind_1 rfl ?_
  refine x_iload_n C 2 dL_kind_2 rfl ?_
  refine x_iload_n C 3 dL_kind_3 rfl ?_
  refine x_cv0 (x_runV C (As := [.int x1, .int x2, .int x3]) (rest := []) (c_X5_setClass_ok h) (cw_L_kind_X5_setClass C) 32 rfl rfl rfl (Nat.le_of_ble_eq_true rfl) dL_kind_4 ⟨Nat.zero_le _, Nat.zero_le _⟩) ?_
  refine x_iconst C (v := 0) dL_kind_7 (by decide) ?_
  exact x_iret C dL_kind_8
set_option maxHeartbeats 4000000 in
set_option maxRecDepth 100000 in
theorem c_L_kind_th0 {l : Launch} {D : va_G} {cI cZ cJ : ClassId} {ad : Nat → Nat} {S : St} {rest : va_W} {x1 : Int32} {x2 : Int32} {x3 : Int32} (hfl : l.stackTraces = false) (h : X5_setClass S x1 x2 x3 = some (1, S)) : ∀ sz, Met l yL_kind wsL_kind (rm_L_kind 1) (PY D (t3 cI cZ cJ) [.ref (ad 32), .int x1, .int x2, .int x3] (wE cI cZ ad S (eo ad (ad 0) (ad 7) rest)) sz) (QI D (t3 cI cZ cJ) (wE cI cZ ad S (eo ad (ad 0) (ad 7) rest)) (wE cI cZ ad S (eo ad (ad 0) (ad 7) rest)) sz (-71)) 1 6 (va_A (wE cI cZ ad S (eo ad (ad 0) (ad 7) rest)) sz) := by
  refine x_metH hfl (Qc := fun sz => QI D (t3 cI cZ cJ) (wE cI cZ ad S (eo ad (ad 0) (ad 7) rest)) (wE cI cZ ad S (eo ad (ad 0) (ad 7) rest)) sz (-71)) RL rfl (by decide) rfl (Nat.le_of_ble_eq_true rfl) (fun p e s m args below meth c C T => ?_)
  refine x_aload_n C 0 dL_kind_0 rfl ?_
  refine x_iload_n C 1 dL_kind_1 rfl ?_
  refine x_iload_n C 2 dL_kind_2 rfl ?_
  refine x_iload_n C 3 dL_kind_3 rfl ?_
  refine x_catch C T (kk := 0) (x_runVX C T.2.2.1 (As := [.int x1, .int x2, .int x3]) (rest := []) (c_X5_setClass_th hfl h) (cw_L_kind_X5_setClass_th C) 32 rfl rfl rfl (Nat.le_of_ble_eq_true rfl) dL_kind_4 ⟨Nat.le_refl _, Nat.le_refl _⟩) (tableOf []) ⟨0, 8, 9, 13⟩ (tableOf [(0, 8, 14, 15), (0, 8, 19, 17)]) rfl (fun z hz => nomatch hz) (by decide) (by decide) hk_L_kind_13 (fun q => ?_)
  refine x_astore C (lv' := [(0, .ref (ad 32)), (1, .int x1), (2, .int x2), (3, .int x3), (4, .ref q)]) dL_kind_9 (by decide) rfl ?_
  refine x_bipush C (v := (-71)) dL_kind_11 (by decide) ?_
  exact x_iret C dL_kind_13
set_option maxHeartbeats 4000000 in
set_option maxRecDepth 100000 in
theorem c_L_kind_th1 {l : Launch} {D : va_G} {cI cZ cJ : ClassId} {ad : Nat → Nat} {S : St} {rest : va_W} {x1 : Int32} {x2 : Int32} {x3 : Int32} (hfl : l.stackTraces = false) (h : X5_setClass S x1 x2 x3 = some (2, S)) : ∀ sz, Met l yL_kind wsL_kind (rm_L_kind 1) (PY D (t3 cI cZ cJ) [.ref (ad 32), .int x1, .int x2, .int x3] (wE cI cZ ad S (eo ad (ad 0) (ad 7) rest)) sz) (QI D (t3 cI cZ cJ) (wE cI cZ ad S (eo ad (ad 0) (ad 7) rest)) (wE cI cZ ad S (eo ad (ad 0) (ad 7) rest)) sz (-72)) 1 6 (va_A (wE cI cZ ad S (eo ad (ad 0) (ad 7) rest)) sz) := by
  refine x_metH hfl (Qc := fun sz => QI D (t3 cI cZ cJ) (wE cI cZ ad S (eo ad (ad 0) (ad 7) rest)) (wE cI cZ ad S (eo ad (ad 0) (ad 7) rest)) sz (-72)) RL rfl (by decide) rfl (Nat.le_of_ble_eq_true rfl) (fun p e s m args below meth c C T => ?_)
  refine x_aload_n C 0 dL_kind_0 rfl ?_
  refine x_iload_n C 1 dL_kind_1 rfl ?_
  refine x_iload_n C 2 dL_kind_2 rfl ?_
  refine x_iload_n C 3 dL_kind_3 rfl ?_
  refine x_catch C T (kk := 1) (x_runVX C T.2.2.1 (As := [.int x1, .int x2, .int x3]) (rest := []) (c_X5_setClass_th hfl h) (cw_L_kind_X5_setClass_th C) 32 rfl rfl rfl (Nat.le_of_ble_eq_true rfl) dL_kind_4 ⟨Nat.le_refl _, Nat.le_refl _⟩) (tableOf [(0, 8, 9, 13)]) ⟨0, 8, 14, 15⟩ (tableOf [(0, 8, 19, 17)]) rfl (fun z hz => by
    rcases List.mem_cons.mp hz with rfl | hz
    · exact ⟨by decide, _, hk_L_kind_13, T.2.2.2 1 0 (by decide) (by decide) (by decide)⟩
    exact nomatch hz) (by decide) (by decide) hk_L_kind_15 (fun q => ?_)
  refine x_astore C (lv' := [(0, .ref (ad 32)), (1, .int x1), (2, .int x2), (3, .int x3), (4, .ref q)]) dL_kind_14 (by decide) rfl ?_
  refine x_bipush C (v := (-72)) dL_kind_16 (by decide) ?_
  exact x_iret C dL_kind_18
set_option maxHeartbeats 4000000 in
set_option maxRecDepth 100000 in
theorem c_L_kind_th2 {l : Launch} {D : va_G} {cI cZ cJ : ClassId} {ad : Nat → Nat} {S : St} {rest : va_W} {x1 : Int32} {x2 : Int32} {x3 : Int32} (hfl : l.stackTraces = false) (h : X5_setClass S x1 x2 x3 = some (3, S)) : ∀ sz, Met l yL_kind wsL_kind (rm_L_kind 1) (PY D (t3 cI cZ cJ) [.ref (ad 32), .int x1, .int x2, .int x3] (wE cI cZ ad S (eo ad (ad 0) (ad 7) rest)) sz) (QI D (t3 cI cZ cJ) (wE cI cZ ad S (eo ad (ad 0) (ad 7) rest)) (wE cI cZ ad S (eo ad (ad 0) (ad 7) rest)) sz (-73)) 1 6 (va_A (wE cI cZ ad S (eo ad (ad 0) (ad 7) rest)) sz) := by
  refine x_metH hfl (Qc := fun sz => QI D (t3 cI cZ cJ) (wE cI cZ ad S (eo ad (ad 0) (ad 7) rest)) (wE cI cZ ad S (eo ad (ad 0) (ad 7) rest)) sz (-73)) RL rfl (by decide) rfl (Nat.le_of_ble_eq_true rfl) (fun p e s m args below meth c C T => ?_)
  refine x_aload_n C 0 dL_kind_0 rfl ?_
  refine x_iload_n C 1 dL_kind_1 rfl ?_
  refine x_iload_n C 2 dL_kind_2 rfl ?_
  refine x_iload_n C 3 dL_kind_3 rfl ?_
  refine x_catch C T (kk := 2) (x_runVX C T.2.2.1 (As := [.int x1, .int x2, .int x3]) (rest := []) (c_X5_setClass_th hfl h) (cw_L_kind_X5_setClass_th C) 32 rfl rfl rfl (Nat.le_of_ble_eq_true rfl) dL_kind_4 ⟨Nat.le_refl _, Nat.le_refl _⟩) (tableOf [(0, 8, 9, 13), (0, 8, 14, 15)]) ⟨0, 8, 19, 17⟩ (tableOf []) rfl (fun z hz => by
    rcases List.mem_cons.mp hz with rfl | hz
    · exact ⟨by decide, _, hk_L_kind_13, T.2.2.2 2 0 (by decide) (by decide) (by decide)⟩
    rcases List.mem_cons.mp hz with rfl | hz
    · exact ⟨by decide, _, hk_L_kind_15, T.2.2.2 2 1 (by decide) (by decide) (by decide)⟩
    exact nomatch hz) (by decide) (by decide) hk_L_kind_17 (fun q => ?_)
  refine x_astore C (lv' := [(0, .ref (ad 32)), (1, .int x1), (2, .int x2), (3, .int x3), (4, .ref q)]) dL_kind_19 (by decide) rfl ?_
  refine x_bipush C (v := (-73)) dL_kind_21 (by decide) ?_
  exact x_iret C dL_kind_23
/-! the law's right -/
def rm_L_right (kc : Nat) : Room := rmf 8 127 kc
theorem cw_L_right_X5_setRight {p : Program} {s : State} {m : MethodId} {args : Array Value} {meth : Method} {c : Code} {D : va_G} {tys : List (ClassId × FieldType)} {R : Room} {kc : Nat} (C : XC p R s m args meth c cL_right 5 (some .int) RL wsL_right D tys) : CallW (rm_L_right kc) s args RL RX5 19 yX5_setRight cX5_setRight 4 none wsX5_setRight (rm_X5_setRight 0) 0 0 3 := cwV 3 C.2.2.2.2.1 gL_right_X5_setRight rfl rfl rfl (by decide +kernel) ⟨Nat.le_of_ble_eq_true rfl, Nat.le_of_ble_eq_true rfl⟩
theorem cw_L_right_X5_setRight_th {p : Program} {s : State} {m : MethodId} {args : Array Value} {meth : Method} {c : Code} {D : va_G} {tys : List (ClassId × FieldType)} {R : Room} {kc : Nat} {q : Nat} (C : XC p R s m args meth c cL_right 5 (some .int) RL wsL_right D tys) : CallW (rm_L_right kc) s args RL RX5 19 yX5_setRight cX5_setRight 4 none wsX5_setRight (rm_X5_setRight (q + 1)) 1 6 3 := cwV 3 C.2.2.2.2.1 gL_right_X5_setRight rfl rfl rfl (by decide +kernel) ⟨Nat.le_of_ble_eq_true rfl, Nat.le_of_ble_eq_true rfl⟩
theorem hk_L_right_13 : Cond.classLink RL 13 (exN 0) ∈ wsL_right := by decide +kernel
theorem hk_L_right_15 : Cond.classLink RL 15 (exN 1) ∈ wsL_right := by decide +kernel
set_option maxHeartbeats 4000000 in
set_option maxRecDepth 100000 in
theorem c_L_right_ok {l : Launch} {D : va_G} {cI cZ cJ : ClassId} {ad : Nat → Nat} {S : St} {rest : va_W} {x1 : Int32} {x2 : Int32} {x3 : Int32} {S' : St} (hfl : l.stackTraces = false) (h : X5_setRight S x1 x2 x3 = some (0, S')) : ∀ sz, Met l yL_right wsL_right (rm_L_right 0) (PY D (t3 cI cZ cJ) [.ref (ad 32), .int x1, .int x2, .int x3] (wE cI cZ ad S (eo ad (ad 0) (ad 7) rest)) sz) (QI D (t3 cI cZ cJ) (wE cI cZ ad S (eo ad (ad 0) (ad 7) rest)) (wE cI cZ ad S' (eo ad (ad 0) (ad 7) rest)) sz 0) 0 0 (va_A (wE cI cZ ad S (eo ad (ad 0) (ad 7) rest)) sz) := by
  refine x_metH hfl (Qc := fun sz => QI D (t3 cI cZ cJ) (wE cI cZ ad S (eo ad (ad 0) (ad 7) rest)) (wE cI cZ ad S' (eo ad (ad 0) (ad 7) rest)) sz 0) RL rfl (by decide) rfl (Nat.le_of_ble_eq_true rfl) (fun p e s m args below meth c C T => ?_)
  refine x_aload_n C 0 dL_right_0 rfl ?_
  refine x_iload_n C 1 dL_right_1 rfl ?_
  refine x_iload_n C 2 dL_right_2 rfl ?_
  refine x_iload_n C 3 dL_right_3 rfl ?_
  refine x_cv0 (x_runV C (As := [.int x1, .int x2, .int x3]) (rest := []) (c_X5_setRight_ok h) (cw_L_right_X5_setRight C) 32 rfl rfl rfl (Nat.le_of_ble_eq_true rfl) dL_right_4 ⟨Nat.zero_le _, Nat.zero_le _⟩) ?_
  refine x_iconst C (v := 0) dL_right_7 (by decide) ?_
  exact x_iret C dL_right_8
set_option maxHeartbeats 4000000 in
set_option maxRecDepth 100000 in
theorem c_L_right_th0 {l : Launch} {D : va_G} {cI cZ cJ : ClassId} {ad : Nat → Nat} {S : St} {rest : va_W} {x1 : Int32} {x2 : Int32} {x3 : Int32} (hfl : l.stackTraces = false) (h : X5_setRight S x1 x2 x3 = some (1, S)) : ∀ sz, Met l yL_right wsL_right (rm_L_right 1) (PY D (t3 cI cZ cJ) [.ref (ad 32), .int x1, .int x2, .int x3] (wE cI cZ ad S (eo ad (ad 0) (ad 7) rest)) sz) (QI D (t3 cI cZ cJ) (wE cI cZ ad S (eo ad (ad 0) (ad 7) rest)) (wE cI cZ ad S (eo ad (ad 0) (ad 7) rest)) sz (-71)) 1 6 (va_A (wE cI cZ ad S (eo ad (ad 0) (ad 7) rest)) sz) := by
  refine x_metH hfl (Qc := fun sz => QI D (t3 cI cZ cJ) (wE cI cZ ad S (eo ad (ad 0) (ad 7) rest)) (wE cI cZ ad S (eo ad (ad 0) (ad 7) rest)) sz (-71)) RL rfl (by decide) rfl (Nat.le_of_ble_eq_true rfl) (fun p e s m args below meth c C T => ?_)
  refine x_aload_n C 0 dL_right_0 rfl ?_
  refine x_iload_n C 1 dL_right_1 rfl ?_
  refine x_iload_n C 2 dL_right_2 rfl ?_
  refine x_iload_n C 3 dL_right_3 rfl ?_
  refine x_catch C T (kk := 0) (x_runVX C T.2.2.1 (As := [.int x1, .int x2, .int x3]) (rest := []) (c_X5_setRight_th hfl h) (cw_L_right_X5_setRight_th C) 32 rfl rfl rfl (Nat.le_of_ble_eq_true rfl) dL_right_4 ⟨Nat.le_refl _, Nat.le_refl _⟩) (tableOf []) ⟨0, 8, 9, 13⟩ (tableOf [(0, 8, 14, 15)]) rfl (fun z hz => nomatch hz) (by decide) (by decide) hk_L_right_13 (fun q => ?_)
  refine x_astore C (lv' := [(0, .ref (ad 32)), (1, .int x1), (2, .int x2), (3, .int x3), (4, .ref q)]) dL_right_9 (by decide) rfl ?_
  refine x_bipush C (v := (-71)) dL_right_11 (by decide) ?_
  exact x_iret C dL_right_13
set_option maxHeartbeats 4000000 in
set_option maxRecDepth 100000 in
theorem c_L_right_th1 {l : Launch} {D : va_G} {cI cZ cJ : ClassId} {ad : Nat → Nat} {S : St} {rest : va_W} {x1 : Int32} {x2 : Int32} {x3 : Int32} (hfl : l.stackTraces = false) (h : X5_setRight S x1 x2 x3 = some (2, S)) : ∀ sz, Met l yL_right wsL_right (rm_L_right 1) (PY D (t3 cI cZ cJ) [.ref (ad 32), .int x1, .int x2, .int x3] (wE cI cZ ad S (eo ad (ad 0) (ad 7) rest)) sz) (QI D (t3 cI cZ cJ) (wE cI cZ ad S (eo ad (ad 0) (ad 7) rest)) (wE cI cZ ad S (eo ad (ad 0) (ad 7) rest)) sz (-72)) 1 6 (va_A (wE cI cZ ad S (eo ad (ad 0) (ad 7) rest)) sz) := by
  refine x_metH hfl (Qc := fun sz => QI D (t3 cI cZ cJ) (wE cI cZ ad S (eo ad (ad 0) (ad 7) rest)) (wE cI cZ ad S (eo ad (ad 0) (ad 7) rest)) sz (-72)) RL rfl (by decide) rfl (Nat.le_of_ble_eq_true rfl) (fun p e s m args below meth c C T => ?_)
  refine x_aload_n C 0 dL_right_0 rfl ?_
  refine x_iload_n C 1 dL_right_1 rfl ?_
  refine x_iload_n C 2 dL_right_2 rfl ?_
  refine x_iload_n C 3 dL_right_3 rfl ?_
  refine x_catch C T (kk := 1) (x_runVX C T.2.2.1 (As := [.int x1, .int x2, .int x3]) (rest := []) (c_X5_setRight_th hfl h) (cw_L_right_X5_setRight_th C) 32 rfl rfl rfl (Nat.le_of_ble_eq_true rfl) dL_right_4 ⟨Nat.le_refl _, Nat.le_refl _⟩) (tableOf [(0, 8, 9, 13)]) ⟨0, 8, 14, 15⟩ (tableOf []) rfl (fun z hz => by
    rcases List.mem_cons.mp hz with rfl | hz
    · exact ⟨by decide, _, hk_L_right_13, T.2.2.2 1 0 (by decide) (by decide) (by decide)⟩
    exact nomatch hz) (by decide) (by decide) hk_L_right_15 (fun q => ?_)
  refine x_astore C (lv' := [(0, .ref (ad 32)), (1, .int x1), (2, .int x2), (3, .int x3), (4, .ref q)]) dL_right_14 (by decide) rfl ?_
  refine x_bipush C (v := (-72)) dL_right_16 (by decide) ?_
  exact x_iret C dL_right_18
/-! the law's refer -/
def rm_L_refer (kc : Nat) : Room := rmf 8 125 kc
theorem cw_L_refer_X5_refer {p : Program} {s : State} {m : MethodId} {args : Array Value} {meth : Method} {c : Code} {D : va_G} {tys : List (ClassId × FieldType)} {R : Room} {kc : Nat} (C : XC p R s m args meth c cL_refer 4 (some .int) RL wsL_refer D tys) : CallW (rm_L_refer kc) s args RL RX5 22 yX5_refer cX5_refer 3 none wsX5_refer (rm_X5_refer 0) 0 0 2 := cwV 2 C.2.2.2.2.1 gL_refer_X5_refer rfl rfl rfl (by decide +kernel) ⟨Nat.le_of_ble_eq_true rfl, Nat.le_of_ble_eq_true rfl⟩
theorem cw_L_refer_X5_refer_th {p : Program} {s : State} {m : MethodId} {args : Array Value} {meth : Method} {c : Code} {D : va_G} {tys : List (ClassId × FieldType)} {R : Room} {kc : Nat} {q : Nat} (C : XC p R s m args meth c cL_refer 4 (some .int) RL wsL_refer D tys) : CallW (rm_L_refer kc) s args RL RX5 22 yX5_refer cX5_refer 3 none wsX5_refer (rm_X5_refer (q + 1)) 1 6 2 := cwV 2 C.2.2.2.2.1 gL_refer_X5_refer rfl rfl rfl (by decide +kernel) ⟨Nat.le_of_ble_eq_true rfl, Nat.le_of_ble_eq_true rfl⟩
theorem hk_L_refer_13 : Cond.classLink RL 13 (exN 0) ∈ wsL_refer := by decide +kernel
set_option maxHeartbeats 4000000 in
set_option maxRecDepth 100000 in
theorem c_L_refer_ok {l : Launch} {D : va_G} {cI cZ cJ : ClassId} {ad : Nat → Nat} {S : St} {rest : va_W} {x1 : Int32} {x2 : Int32} {S' : St} (hfl : l.stackTraces = false) (h : X5_refer S x1 x2 = some (0, S')) : ∀ sz, Met l yL_refer wsL_refer (rm_L_refer 0) (PY D (t3 cI cZ cJ) [.ref (ad 32), .int x1, .int x2] (wE cI cZ ad S (eo ad (ad 0) (ad 7) rest)) sz) (QI D (t3 cI cZ cJ) (wE cI cZ ad S (eo ad (ad 0) (ad 7) rest)) (wE cI cZ ad S' (eo ad (ad 0) (ad 7) rest)) sz 0) 0 0 (va_A (wE cI cZ ad S (eo ad (ad 0) (ad 7) rest)) sz) := by
  refine x_metH hfl (Qc := fun sz => QI D (t3 cI cZ cJ) (wE cI cZ ad S (eo ad (ad 0) (ad 7) rest)) (wE cI cZ ad S' (eo ad (ad 0) (ad 7) rest)) sz 0) RL rfl (by decide) rfl (Nat.le_of_ble_eq_true rfl) (fun p e s m args below meth c C T => ?_)
  refine x_aload_n C 0 dL_refer_0 rfl ?_
  refine x_iload_n C 1 dL_refer_1 rfl ?_
  refine x_iload_n C 2 dL_refer_2 rfl ?_
  refine x_cv0 (x_runV C (As := [.int x1, .int x2]) (rest := []) (c_X5_refer_ok h) (cw_L_refer_X5_refer C) 32 rfl rfl rfl (Nat.le_of_ble_eq_true rfl) dL_refer_3 ⟨Nat.zero_le _, Nat.zero_le _⟩) ?_
  refine x_iconst C (v := 0) dL_refer_6 (by decide) ?_
  exact x_iret C dL_refer_7
set_option maxHeartbeats 4000000 in
set_option maxRecDepth 100000 in
theorem c_L_refer_th0 {l : Launch} {D : va_G} {cI cZ cJ : ClassId} {ad : Nat → Nat} {S : St} {rest : va_W} {x1 : Int32} {x2 : Int32} (hfl : l.stackTraces = false) (h : X5_refer S x1 x2 = some (1, S)) : ∀ sz, Met l yL_refer wsL_refer (rm_L_refer 1) (PY D (t3 cI cZ cJ) [.ref (ad 32), .int x1, .int x2] (wE cI cZ ad S (eo ad (ad 0) (ad 7) rest)) sz) (QI D (t3 cI cZ cJ) (wE cI cZ ad S (eo ad (ad 0) (ad 7) rest)) (wE cI cZ ad S (eo ad (ad 0) (ad 7) rest)) sz (-71)) 1 6 (va_A (wE cI cZ ad S (eo ad (ad 0) (ad 7) rest)) sz) := by
  refine x_metH hfl (Qc := fun sz => QI D (t3 cI cZ cJ) (wE cI cZ ad S (eo ad (ad 0) (ad 7) rest)) (wE cI cZ ad S (eo ad (ad 0) (ad 7) rest)) sz (-71)) RL rfl (by decide) rfl (Nat.le_of_ble_eq_true rfl) (fun p e s m args below meth c C T => ?_)
  refine x_aload_n C 0 dL_refer_0 rfl ?_
  refine x_iload_n C 1 dL_refer_1 rfl ?_
  refine x_iload_n C 2 dL_refer_2 rfl ?_
  refine x_catch C T (kk := 0) (x_runVX C T.2.2.1 (As := [.int x1, .int x2]) (rest := []) (c_X5_refer_th hfl h) (cw_L_refer_X5_refer_th C) 32 rfl rfl rfl (Nat.le_of_ble_eq_true rfl) dL_refer_3 ⟨Nat.le_refl _, Nat.le_refl _⟩) (tableOf []) ⟨0, 7, 8, 13⟩ (tableOf []) rfl (fun z hz => nomatch hz) (by decide) (by decide) hk_L_refer_13 (fun q => ?_)
  refine x_astore_n C (lv' := [(0, .ref (ad 32)), (1, .int x1), (2, .int x2), (3, .ref q)]) dL_refer_8 (by decide) rfl ?_
  refine x_bipush C (v := (-71)) dL_refer_9 (by decide) ?_
  exact x_iret C dL_refer_11
/-! the law's search -/
def rm_L_search (kc : Nat) : Room := rmf 9 171 kc
theorem cw_L_search_X5_search {p : Program} {s : State} {m : MethodId} {args : Array Value} {meth : Method} {c : Code} {D : va_G} {tys : List (ClassId × FieldType)} {R : Room} {kc : Nat} (C : XC p R s m args meth c cL_search 8 (some .int) RL wsL_search D tys) : CallW (rm_L_search kc) s args RL RX5 79 yX5_search cX5_search 11 (some .int) wsX5_search (rm_X5_search 0) 0 0 6 := cwV 6 C.2.2.2.2.1 gL_search_X5_search rfl rfl rfl (by decide +kernel) ⟨Nat.le_of_ble_eq_true rfl, Nat.le_of_ble_eq_true rfl⟩
theorem cw_L_search_X5_search_th {p : Program} {s : State} {m : MethodId} {args : Array Value} {meth : Method} {c : Code} {D : va_G} {tys : List (ClassId × FieldType)} {R : Room} {kc : Nat} {q : Nat} (C : XC p R s m args meth c cL_search 8 (some .int) RL wsL_search D tys) : CallW (rm_L_search kc) s args RL RX5 79 yX5_search cX5_search 11 (some .int) wsX5_search (rm_X5_search (q + 1)) 1 6 6 := cwV 6 C.2.2.2.2.1 gL_search_X5_search rfl rfl rfl (by decide +kernel) ⟨Nat.le_of_ble_eq_true rfl, Nat.le_of_ble_eq_true rfl⟩
theorem hk_L_search_13 : Cond.classLink RL 13 (exN 0) ∈ wsL_search := by decide +kernel
theorem hk_L_search_15 : Cond.classLink RL 15 (exN 1) ∈ wsL_search := by decide +kernel
set_option maxHeartbeats 4000000 in
set_option maxRecDepth 100000 in
theorem c_L_search_th0 {l : Launch} {D : va_G} {cI cZ cJ : ClassId} {ad : Nat → Nat} {S : St} {rest : va_W} {x1 : Int32} {x2 : Int32} {x3 : Int32} {x4 : Int32} {x5 : Int32} {x6 : Int32} (hfl : l.stackTraces = false) (h : X5_search S x1 x2 x3 x4 x5 x6 = some (1, 0, S)) : ∀ sz, Met l yL_search wsL_search (rm_L_search 1) (PY D (t3 cI cZ cJ) [.ref (ad 32), .int x1, .int x2, .int x3, .int x4, .int x5, .int x6] (wE cI cZ ad S (eo ad (ad 0) (ad 7) rest)) sz) (QI D (t3 cI cZ cJ) (wE cI cZ ad S (eo ad (ad 0) (ad 7) rest)) (wE cI cZ ad S (eo ad (ad 0) (ad 7) rest)) sz (-71)) 1 6 (va_A (wE cI cZ ad S (eo ad (ad 0) (ad 7) rest)) sz) := by
  refine x_metH hfl (Qc := fun sz => QI D (t3 cI cZ cJ) (wE cI cZ ad S (eo ad (ad 0) (ad 7) rest)) (wE cI cZ ad S (eo ad (ad 0) (ad 7) rest)) sz (-71)) RL rfl (by decide) rfl (Nat.le_of_ble_eq_true rfl) (fun p e s m args below meth c C T => ?_)
  refine x_aload_n C 0 dL_search_0 rfl ?_
  refine x_iload_n C 1 dL_search_1 rfl ?_
  refine x_iload_n C 2 dL_search_2 rfl ?_
  refine x_iload_n C 3 dL_search_3 rfl ?_
  refine x_iload C 4 dL_search_4 rfl ?_
  refine x_iload C 5 dL_search_6 rfl ?_
  refine x_iload C 6 dL_search_8 rfl ?_
  refine x_catch C T (kk := 0) (x_runVX C T.2.2.1 (As := [.int x1, .int x2, .int x3, .int x4, .int x5, .int x6]) (rest := []) (c_X5_search_th hfl h) (cw_L_search_X5_search_th C) 32 rfl rfl rfl (Nat.le_of_ble_eq_true rfl) dL_search_10 ⟨Nat.le_refl _, Nat.le_refl _⟩) (tableOf []) ⟨0, 13, 14, 13⟩ (tableOf [(0, 13, 19, 15)]) rfl (fun z hz => nomatch hz) (by decide) (by decide) hk_L_search_13 (fun q => ?_)
  refine x_astore C (lv' := [(0, .ref (ad 32)), (1, .int x1), (2, .int x2), (3, .int x3), (4, .int x4), (5, .int x5), (6, .int x6), (7, .ref q)]) dL_search_14 (by decide) rfl ?_
  refine x_bipush C (v := (-71)) dL_search_16 (by decide) ?_
  exact x_iret C dL_search_18
set_option maxHeartbeats 4000000 in
set_option maxRecDepth 100000 in
theorem c_L_search_th1 {l : Launch} {D : va_G} {cI cZ cJ : ClassId} {ad : Nat → Nat} {S : St} {rest : va_W} {x1 : Int32} {x2 : Int32} {x3 : Int32} {x4 : Int32} {x5 : Int32} {x6 : Int32} (hfl : l.stackTraces = false) (h : X5_search S x1 x2 x3 x4 x5 x6 = some (2, 0, S)) : ∀ sz, Met l yL_search wsL_search (rm_L_search 1) (PY D (t3 cI cZ cJ) [.ref (ad 32), .int x1, .int x2, .int x3, .int x4, .int x5, .int x6] (wE cI cZ ad S (eo ad (ad 0) (ad 7) rest)) sz) (QI D (t3 cI cZ cJ) (wE cI cZ ad S (eo ad (ad 0) (ad 7) rest)) (wE cI cZ ad S (eo ad (ad 0) (ad 7) rest)) sz (-72)) 1 6 (va_A (wE cI cZ ad S (eo ad (ad 0) (ad 7) rest)) sz) := by
  refine x_metH hfl (Qc := fun sz => QI D (t3 cI cZ cJ) (wE cI cZ ad S (eo ad (ad 0) (ad 7) rest)) (wE cI cZ ad S (eo ad (ad 0) (ad 7) rest)) sz (-72)) RL rfl (by decide) rfl (Nat.le_of_ble_eq_true rfl) (fun p e s m args below meth c C T => ?_)
  refine x_aload_n C 0 dL_search_0 rfl ?_
  refine x_iload_n C 1 dL_search_1 rfl ?_
  refine x_iload_n C 2 dL_search_2 rfl ?_
  refine x_iload_n C 3 dL_search_3 rfl ?_
  refine x_iload C 4 dL_search_4 rfl ?_
  refine x_iload C 5 dL_search_6 rfl ?_
  refine x_iload C 6 dL_search_8 rfl ?_
  refine x_catch C T (kk := 1) (x_runVX C T.2.2.1 (As := [.int x1, .int x2, .int x3, .int x4, .int x5, .int x6]) (rest := []) (c_X5_search_th hfl h) (cw_L_search_X5_search_th C) 32 rfl rfl rfl (Nat.le_of_ble_eq_true rfl) dL_search_10 ⟨Nat.le_refl _, Nat.le_refl _⟩) (tableOf [(0, 13, 14, 13)]) ⟨0, 13, 19, 15⟩ (tableOf []) rfl (fun z hz => by
    rcases List.mem_cons.mp hz with rfl | hz
    · exact ⟨by decide, _, hk_L_search_13, T.2.2.2 1 0 (by decide) (by decide) (by decide)⟩
    exact nomatch hz) (by decide) (by decide) hk_L_search_15 (fun q => ?_)
  refine x_astore C (lv' := [(0, .ref (ad 32)), (1, .int x1), (2, .int x2), (3, .int x3), (4, .int x4), (5, .int x5), (6, .int x6), (7, .ref q)]) dL_search_19 (by decide) rfl ?_
  refine x_bipush C (v := (-72)) dL_search_21 (by decide) ?_
  exact x_iret C dL_search_23
/-! the law's act -/
def rm_L_act (kc : Nat) : Room := rmf 9 171 kc
theorem cw_L_act_X5_add_th {p : Program} {s : State} {m : MethodId} {args : Array Value} {meth : Method} {c : Code} {D : va_G} {tys : List (ClassId × FieldType)} {R : Room} {kc : Nat} {q : Nat} (C : XC p R s m args meth c cL_act 7 (some .int) RL wsL_act D tys) : CallW (rm_L_act kc) s args RL RX5 26 yX5_add cX5_add 7 (some .int) wsX5_add (rm_X5_add (q + 1)) 1 6 4 := cwV 4 C.2.2.2.2.1 gL_act_X5_add rfl rfl rfl (by decide +kernel) ⟨Nat.le_of_ble_eq_true rfl, Nat.le_of_ble_eq_true rfl⟩
theorem cw_L_act_X5_set_th {p : Program} {s : State} {m : MethodId} {args : Array Value} {meth : Method} {c : Code} {D : va_G} {tys : List (ClassId × FieldType)} {R : Room} {kc : Nat} {q : Nat} (C : XC p R s m args meth c cL_act 7 (some .int) RL wsL_act D tys) : CallW (rm_L_act kc) s args RL RX5 30 yX5_set cX5_set 7 (some .int) wsX5_set (rm_X5_set (q + 1)) 1 6 4 := cwV 4 C.2.2.2.2.1 gL_act_X5_set rfl rfl rfl (by decide +kernel) ⟨Nat.le_of_ble_eq_true rfl, Nat.le_of_ble_eq_true rfl⟩
theorem cw_L_act_X5_move_th {p : Program} {s : State} {m : MethodId} {args : Array Value} {meth : Method} {c : Code} {D : va_G} {tys : List (ClassId × FieldType)} {R : Room} {kc : Nat} {q : Nat} (C : XC p R s m args meth c cL_act 7 (some .int) RL wsL_act D tys) : CallW (rm_L_act kc) s args RL RX5 33 yX5_move cX5_move 7 (some .int) wsX5_move (rm_X5_move (q + 1)) 1 6 4 := cwV 4 C.2.2.2.2.1 gL_act_X5_move rfl rfl rfl (by decide +kernel) ⟨Nat.le_of_ble_eq_true rfl, Nat.le_of_ble_eq_true rfl⟩
theorem cw_L_act_X5_delete_th {p : Program} {s : State} {m : MethodId} {args : Array Value} {meth : Method} {c : Code} {D : va_G} {tys : List (ClassId × FieldType)} {R : Room} {kc : Nat} {q : Nat} (C : XC p R s m args meth c cL_act 7 (some .int) RL wsL_act D tys) : CallW (rm_L_act kc) s args RL RX5 36 yX5_delete cX5_delete 4 (some .int) wsX5_delete (rm_X5_delete (q + 1)) 1 6 2 := cwV 2 C.2.2.2.2.1 gL_act_X5_delete rfl rfl rfl (by decide +kernel) ⟨Nat.le_of_ble_eq_true rfl, Nat.le_of_ble_eq_true rfl⟩
theorem cw_L_act_X5_carry_th {p : Program} {s : State} {m : MethodId} {args : Array Value} {meth : Method} {c : Code} {D : va_G} {tys : List (ClassId × FieldType)} {R : Room} {kc : Nat} {q : Nat} (C : XC p R s m args meth c cL_act 7 (some .int) RL wsL_act D tys) : CallW (rm_L_act kc) s args RL RX5 40 yX5_carry cX5_carry 4 (some .boolean) wsX5_carry (rm_X5_carry (q + 1)) 1 6 2 := cwV 2 C.2.2.2.2.1 gL_act_X5_carry rfl rfl rfl (by decide +kernel) ⟨Nat.le_of_ble_eq_true rfl, Nat.le_of_ble_eq_true rfl⟩
theorem cw_L_act_X5_timeOf_th {p : Program} {s : State} {m : MethodId} {args : Array Value} {meth : Method} {c : Code} {D : va_G} {tys : List (ClassId × FieldType)} {R : Room} {kc : Nat} {q : Nat} (C : XC p R s m args meth c cL_act 7 (some .int) RL wsL_act D tys) : CallW (rm_L_act kc) s args RL RX5 44 yX5_timeOf cX5_timeOf 2 (some .int) wsX5_timeOf (rm_X5_timeOf (q + 1)) 1 6 1 := cwV 1 C.2.2.2.2.1 gL_act_X5_timeOf rfl rfl rfl (by decide +kernel) ⟨Nat.le_of_ble_eq_true rfl, Nat.le_of_ble_eq_true rfl⟩
theorem cw_L_act_X5_entries_th {p : Program} {s : State} {m : MethodId} {args : Array Value} {meth : Method} {c : Code} {D : va_G} {tys : List (ClassId × FieldType)} {R : Room} {kc : Nat} {q : Nat} (C : XC p R s m args meth c cL_act 7 (some .int) RL wsL_act D tys) : CallW (rm_L_act kc) s args RL RX5 48 yX5_entries cX5_entries 2 (some .int) wsX5_entries (rm_X5_entries (q + 1)) 1 6 1 := cwV 1 C.2.2.2.2.1 gL_act_X5_entries rfl rfl rfl (by decide +kernel) ⟨Nat.le_of_ble_eq_true rfl, Nat.le_of_ble_eq_true rfl⟩
theorem cw_L_act_X5_isThere_th {p : Program} {s : State} {m : MethodId} {args : Array Value} {meth : Method} {c : Code} {D : va_G} {tys : List (ClassId × FieldType)} {R : Room} {kc : Nat} {q : Nat} (C : XC p R s m args meth c cL_act 7 (some .int) RL wsL_act D tys) : CallW (rm_L_act kc) s args RL RX5 51 yX5_isThere cX5_isThere 3 (some .boolean) wsX5_isThere (rm_X5_isThere (q + 1)) 1 6 2 := cwV 2 C.2.2.2.2.1 gL_act_X5_isThere rfl rfl rfl (by decide +kernel) ⟨Nat.le_of_ble_eq_true rfl, Nat.le_of_ble_eq_true rfl⟩
theorem cw_L_act_X5_parentOf_th {p : Program} {s : State} {m : MethodId} {args : Array Value} {meth : Method} {c : Code} {D : va_G} {tys : List (ClassId × FieldType)} {R : Room} {kc : Nat} {q : Nat} (C : XC p R s m args meth c cL_act 7 (some .int) RL wsL_act D tys) : CallW (rm_L_act kc) s args RL RX5 54 yX5_parentOf cX5_parentOf 4 (some .int) wsX5_parentOf (rm_X5_parentOf (q + 1)) 1 6 2 := cwV 2 C.2.2.2.2.1 gL_act_X5_parentOf rfl rfl rfl (by decide +kernel) ⟨Nat.le_of_ble_eq_true rfl, Nat.le_of_ble_eq_true rfl⟩
theorem cw_L_act_X5_labelOf_th {p : Program} {s : State} {m : MethodId} {args : Array Value} {meth : Method} {c : Code} {D : va_G} {tys : List (ClassId × FieldType)} {R : Room} {kc : Nat} {q : Nat} (C : XC p R s m args meth c cL_act 7 (some .int) RL wsL_act D tys) : CallW (rm_L_act kc) s args RL RX5 57 yX5_labelOf cX5_labelOf 4 (some .int) wsX5_labelOf (rm_X5_labelOf (q + 1)) 1 6 2 := cwV 2 C.2.2.2.2.1 gL_act_X5_labelOf rfl rfl rfl (by decide +kernel) ⟨Nat.le_of_ble_eq_true rfl, Nat.le_of_ble_eq_true rfl⟩
theorem cw_L_act_X5_value_th {p : Program} {s : State} {m : MethodId} {args : Array Value} {meth : Method} {c : Code} {D : va_G} {tys : List (ClassId × FieldType)} {R : Room} {kc : Nat} {q : Nat} (C : XC p R s m args meth c cL_act 7 (some .int) RL wsL_act D tys) : CallW (rm_L_act kc) s args RL RX5 60 yX5_value cX5_value 5 (some .int) wsX5_value (rm_X5_value (q + 1)) 1 6 3 := cwV 3 C.2.2.2.2.1 gL_act_X5_value rfl rfl rfl (by decide +kernel) ⟨Nat.le_of_ble_eq_true rfl, Nat.le_of_ble_eq_true rfl⟩
theorem cw_L_act_X5_isWhole_th {p : Program} {s : State} {m : MethodId} {args : Array Value} {meth : Method} {c : Code} {D : va_G} {tys : List (ClassId × FieldType)} {R : Room} {kc : Nat} {q : Nat} (C : XC p R s m args meth c cL_act 7 (some .int) RL wsL_act D tys) : CallW (rm_L_act kc) s args RL RX5 64 yX5_isWhole cX5_isWhole 4 (some .boolean) wsX5_isWhole (rm_X5_isWhole (q + 1)) 1 6 2 := cwV 2 C.2.2.2.2.1 gL_act_X5_isWhole rfl rfl rfl (by decide +kernel) ⟨Nat.le_of_ble_eq_true rfl, Nat.le_of_ble_eq_true rfl⟩
theorem cw_L_act_X5_find_th {p : Program} {s : State} {m : MethodId} {args : Array Value} {meth : Method} {c : Code} {D : va_G} {tys : List (ClassId × FieldType)} {R : Room} {kc : Nat} {q : Nat} (C : XC p R s m args meth c cL_act 7 (some .int) RL wsL_act D tys) : CallW (rm_L_act kc) s args RL RX5 67 yX5_find cX5_find 5 (some .int) wsX5_find (rm_X5_find (q + 1)) 1 6 3 := cwV 3 C.2.2.2.2.1 gL_act_X5_find rfl rfl rfl (by decide +kernel) ⟨Nat.le_of_ble_eq_true rfl, Nat.le_of_ble_eq_true rfl⟩
theorem cw_L_act_X5_test_th {p : Program} {s : State} {m : MethodId} {args : Array Value} {meth : Method} {c : Code} {D : va_G} {tys : List (ClassId × FieldType)} {R : Room} {kc : Nat} {q : Nat} (C : XC p R s m args meth c cL_act 7 (some .int) RL wsL_act D tys) : CallW (rm_L_act kc) s args RL RX5 70 yX5_test cX5_test 4 (some .int) wsX5_test (rm_X5_test (q + 1)) 1 6 3 := cwV 3 C.2.2.2.2.1 gL_act_X5_test rfl rfl rfl (by decide +kernel) ⟨Nat.le_of_ble_eq_true rfl, Nat.le_of_ble_eq_true rfl⟩
theorem cw_L_act_X5_join_th {p : Program} {s : State} {m : MethodId} {args : Array Value} {meth : Method} {c : Code} {D : va_G} {tys : List (ClassId × FieldType)} {R : Room} {kc : Nat} {q : Nat} (C : XC p R s m args meth c cL_act 7 (some .int) RL wsL_act D tys) : CallW (rm_L_act kc) s args RL RX5 73 yX5_join cX5_join 4 (some .int) wsX5_join (rm_X5_join (q + 1)) 1 6 3 := cwV 3 C.2.2.2.2.1 gL_act_X5_join rfl rfl rfl (by decide +kernel) ⟨Nat.le_of_ble_eq_true rfl, Nat.le_of_ble_eq_true rfl⟩
theorem cw_L_act_X5_holds_th {p : Program} {s : State} {m : MethodId} {args : Array Value} {meth : Method} {c : Code} {D : va_G} {tys : List (ClassId × FieldType)} {R : Room} {kc : Nat} {q : Nat} (C : XC p R s m args meth c cL_act 7 (some .int) RL wsL_act D tys) : CallW (rm_L_act kc) s args RL RX5 76 yX5_holds cX5_holds 5 (some .int) wsX5_holds (rm_X5_holds (q + 1)) 1 6 3 := cwV 3 C.2.2.2.2.1 gL_act_X5_holds rfl rfl rfl (by decide +kernel) ⟨Nat.le_of_ble_eq_true rfl, Nat.le_of_ble_eq_true rfl⟩
theorem cw_L_act_X5_test {p : Program} {s : State} {m : MethodId} {args : Array Value} {meth : Method} {c : Code} {D : va_G} {tys : List (ClassId × FieldType)} {R : Room} {kc : Nat} (C : XC p R s m args meth c cL_act 7 (some .int) RL wsL_act D tys) : CallW (rm_L_act kc) s args RL RX5 70 yX5_test cX5_test 4 (some .int) wsX5_test (rm_X5_test 0) 0 0 3 := cwV 3 C.2.2.2.2.1 gL_act_X5_test rfl rfl rfl (by decide +kernel) ⟨Nat.le_of_ble_eq_true rfl, Nat.le_of_ble_eq_true rfl⟩
theorem cw_L_act_X5_join {p : Program} {s : State} {m : MethodId} {args : Array Value} {meth : Method} {c : Code} {D : va_G} {tys : List (ClassId × FieldType)} {R : Room} {kc : Nat} (C : XC p R s m args meth c cL_act 7 (some .int) RL wsL_act D tys) : CallW (rm_L_act kc) s args RL RX5 73 yX5_join cX5_join 4 (some .int) wsX5_join (rm_X5_join 0) 0 0 3 := cwV 3 C.2.2.2.2.1 gL_act_X5_join rfl rfl rfl (by decide +kernel) ⟨Nat.le_of_ble_eq_true rfl, Nat.le_of_ble_eq_true rfl⟩
theorem hk_L_act_13 : Cond.classLink RL 13 (exN 0) ∈ wsL_act := by decide +kernel
theorem hk_L_act_15 : Cond.classLink RL 15 (exN 1) ∈ wsL_act := by decide +kernel
theorem hk_L_act_17 : Cond.classLink RL 17 (exN 2) ∈ wsL_act := by decide +kernel
set_option maxHeartbeats 4000000 in
set_option maxRecDepth 100000 in
theorem c_L_act_add_th0 {l : Launch} {D : va_G} {cI cZ cJ : ClassId} {ad : Nat → Nat} {S : St} {rest : va_W} {x2 : Int32} {x3 : Int32} {x4 : Int32} {x5 : Int32} (hfl : l.stackTraces = false) (h : X5_add S x2 x3 x4 x5 = some (1, 0, S)) : ∀ sz, Met l yL_act wsL_act (rm_L_act 1) (PY D (t3 cI cZ cJ) [.ref (ad 32), .int 0, .int x2, .int x3, .int x4, .int x5] (wE cI cZ ad S (eo ad (ad 0) (ad 7) rest)) sz) (QI D (t3 cI cZ cJ) (wE cI cZ ad S (eo ad (ad 0) (ad 7) rest)) (wE cI cZ ad S (eo ad (ad 0) (ad 7) rest)) sz (-71)) 1 6 (va_A (wE cI cZ ad S (eo ad (ad 0) (ad 7) rest)) sz) := by
  refine x_metH hfl (Qc := fun sz => QI D (t3 cI cZ cJ) (wE cI cZ ad S (eo ad (ad 0) (ad 7) rest)) (wE cI cZ ad S (eo ad (ad 0) (ad 7) rest)) sz (-71)) RL rfl (by decide) rfl (Nat.le_of_ble_eq_true rfl) (fun p e s m args below meth c C T => ?_)
  refine x_iload_n C 1 dL_act_0 rfl ?_
  refine x_if_ne C (t := 17) dL_act_1 (by decide) (fun c9 => absurd c9 (by decide)) (fun _ => ?_)
  refine x_aload_n C 0 dL_act_4 rfl ?_
  refine x_iload_n C 2 dL_act_5 rfl ?_
  refine x_iload_n C 3 dL_act_6 rfl ?_
  refine x_iload C 4 dL_act_7 rfl ?_
  refine x_iload C 5 dL_act_9 rfl ?_
  refine x_catch C T (kk := 0) (x_runVX C T.2.2.1 (As := [.int x2, .int x3, .int x4, .int x5]) (rest := []) (c_X5_add_th hfl h) (cw_L_act_X5_add_th C) 32 rfl rfl rfl (Nat.le_of_ble_eq_true rfl) dL_act_11 ⟨Nat.le_refl _, Nat.le_refl _⟩) (tableOf []) ⟨0, 289, 290, 13⟩ (tableOf [(0, 289, 295, 15), (0, 289, 300, 17)]) rfl (fun z hz => nomatch hz) (by decide) (by decide) hk_L_act_13 (fun q => ?_)
  refine x_astore C (lv' := [(0, .ref (ad 32)), (1, .int 0), (2, .int x2), (3, .int x3), (4, .int x4), (5, .int x5), (6, .ref q)]) dL_act_290 (by decide) rfl ?_
  refine x_bipush C (v := (-71)) dL_act_292 (by decide) ?_
  exact x_iret C dL_act_294
set_option maxHeartbeats 4000000 in
set_option maxRecDepth 100000 in
theorem c_L_act_add_th1 {l : Launch} {D : va_G} {cI cZ cJ : ClassId} {ad : Nat → Nat} {S : St} {rest : va_W} {x2 : Int32} {x3 : Int32} {x4 : Int32} {x5 : Int32} (hfl : l.stackTraces = false) (h : X5_add S x2 x3 x4 x5 = some (2, 0, S)) : ∀ sz, Met l yL_act wsL_act (rm_L_act 1) (PY D (t3 cI cZ cJ) [.ref (ad 32), .int 0, .int x2, .int x3, .int x4, .int x5] (wE cI cZ ad S (eo ad (ad 0) (ad 7) rest)) sz) (QI D (t3 cI cZ cJ) (wE cI cZ ad S (eo ad (ad 0) (ad 7) rest)) (wE cI cZ ad S (eo ad (ad 0) (ad 7) rest)) sz (-72)) 1 6 (va_A (wE cI cZ ad S (eo ad (ad 0) (ad 7) rest)) sz) := by
  refine x_metH hfl (Qc := fun sz => QI D (t3 cI cZ cJ) (wE cI cZ ad S (eo ad (ad 0) (ad 7) rest)) (wE cI cZ ad S (eo ad (ad 0) (ad 7) rest)) sz (-72)) RL rfl (by decide) rfl (Nat.le_of_ble_eq_true rfl) (fun p e s m args below meth c C T => ?_)
  refine x_iload_n C 1 dL_act_0 rfl ?_
  refine x_if_ne C (t := 17) dL_act_1 (by decide) (fun c9 => absurd c9 (by decide)) (fun _ => ?_)
  refine x_aload_n C 0 dL_act_4 rfl ?_
  refine x_iload_n C 2 dL_act_5 rfl ?_
  refine x_iload_n C 3 dL_act_6 rfl ?_
  refine x_iload C 4 dL_act_7 rfl ?_
  refine x_iload C 5 dL_act_9 rfl ?_
  refine x_catch C T (kk := 1) (x_runVX C T.2.2.1 (As := [.int x2, .int x3, .int x4, .int x5]) (rest := []) (c_X5_add_th hfl h) (cw_L_act_X5_add_th C) 32 rfl rfl rfl (Nat.le_of_ble_eq_true rfl) dL_act_11 ⟨Nat.le_refl _, Nat.le_refl _⟩) (tableOf [(0, 289, 290, 13)]) ⟨0, 289, 295, 15⟩ (tableOf [(0, 289, 300, 17)]) rfl (fun z hz => by
    rcases List.mem_cons.mp hz with rfl | hz
    · exact ⟨by decide, _, hk_L_act_13, T.2.2.2 1 0 (by decide) (by decide) (by decide)⟩
    exact nomatch hz) (by decide) (by decide) hk_L_act_15 (fun q => ?_)
  refine x_astore C (lv' := [(0, .ref (ad 32)), (1, .int 0), (2, .int x2), (3, .int x3), (4, .int x4), (5, .int x5), (6, .ref q)]) dL_act_295 (by decide) rfl ?_
  refine x_bipush C (v := (-72)) dL_act_297 (by decide) ?_
  exact x_iret C dL_act_299
set_option maxHeartbeats 4000000 in
set_option maxRecDepth 100000 in
theorem c_L_act_add_th2 {l : Launch} {D : va_G} {cI cZ cJ : ClassId} {ad : Nat → Nat} {S : St} {rest : va_W} {x2 : Int32} {x3 : Int32} {x4 : Int32} {x5 : Int32} (hfl : l.stackTraces = false) (h : X5_add S x2 x3 x4 x5 = some (3, 0, S)) : ∀ sz, Met l yL_act wsL_act (rm_L_act 1) (PY D (t3 cI cZ cJ) [.ref (ad 32), .int 0, .int x2, .int x3, .int x4, .int x5] (wE cI cZ ad S (eo ad (ad 0) (ad 7) rest)) sz) (QI D (t3 cI cZ cJ) (wE cI cZ ad S (eo ad (ad 0) (ad 7) rest)) (wE cI cZ ad S (eo ad (ad 0) (ad 7) rest)) sz (-73)) 1 6 (va_A (wE cI cZ ad S (eo ad (ad 0) (ad 7) rest)) sz) := by
  refine x_metH hfl (Qc := fun sz => QI D (t3 cI cZ cJ) (wE cI cZ ad S (eo ad (ad 0) (ad 7) rest)) (wE cI cZ ad S (eo ad (ad 0) (ad 7) rest)) sz (-73)) RL rfl (by decide) rfl (Nat.le_of_ble_eq_true rfl) (fun p e s m args below meth c C T => ?_)
  refine x_iload_n C 1 dL_act_0 rfl ?_
  refine x_if_ne C (t := 17) dL_act_1 (by decide) (fun c9 => absurd c9 (by decide)) (fun _ => ?_)
  refine x_aload_n C 0 dL_act_4 rfl ?_
  refine x_iload_n C 2 dL_act_5 rfl ?_
  refine x_iload_n C 3 dL_act_6 rfl ?_
  refine x_iload C 4 dL_act_7 rfl ?_
  refine x_iload C 5 dL_act_9 rfl ?_
  refine x_catch C T (kk := 2) (x_runVX C T.2.2.1 (As := [.int x2, .int x3, .int x4, .int x5]) (rest := []) (c_X5_add_th hfl h) (cw_L_act_X5_add_th C) 32 rfl rfl rfl (Nat.le_of_ble_eq_true rfl) dL_act_11 ⟨Nat.le_refl _, Nat.le_refl _⟩) (tableOf [(0, 289, 290, 13), (0, 289, 295, 15)]) ⟨0, 289, 300, 17⟩ (tableOf []) rfl (fun z hz => by
    rcases List.mem_cons.mp hz with rfl | hz
    · exact ⟨by decide, _, hk_L_act_13, T.2.2.2 2 0 (by decide) (by decide) (by decide)⟩
    rcases List.mem_cons.mp hz with rfl | hz
    · exact ⟨by decide, _, hk_L_act_15, T.2.2.2 2 1 (by decide) (by decide) (by decide)⟩
    exact nomatch hz) (by decide) (by decide) hk_L_act_17 (fun q => ?_)
  refine x_astore C (lv' := [(0, .ref (ad 32)), (1, .int 0), (2, .int x2), (3, .int x3), (4, .int x4), (5, .int x5), (6, .ref q)]) dL_act_300 (by decide) rfl ?_
  refine x_bipush C (v := (-73)) dL_act_302 (by decide) ?_
  exact x_iret C dL_act_304
set_option maxHeartbeats 4000000 in
set_option maxRecDepth 100000 in
theorem c_L_act_set_th0 {l : Launch} {D : va_G} {cI cZ cJ : ClassId} {ad : Nat → Nat} {S : St} {rest : va_W} {x2 : Int32} {x3 : Int32} {x4 : Int32} {x5 : Int32} (hfl : l.stackTraces = false) (h : X5_set S x2 x3 x4 x5 = some (1, 0, S)) : ∀ sz, Met l yL_act wsL_act (rm_L_act 1) (PY D (t3 cI cZ cJ) [.ref (ad 32), .int 1, .int x2, .int x3, .int x4, .int x5] (wE cI cZ ad S (eo ad (ad 0) (ad 7) rest)) sz) (QI D (t3 cI cZ cJ) (wE cI cZ ad S (eo ad (ad 0) (ad 7) rest)) (wE cI cZ ad S (eo ad (ad 0) (ad 7) rest)) sz (-71)) 1 6 (va_A (wE cI cZ ad S (eo ad (ad 0) (ad 7) rest)) sz) := by
  refine x_metH hfl (Qc := fun sz => QI D (t3 cI cZ cJ) (wE cI cZ ad S (eo ad (ad 0) (ad 7) rest)) (wE cI cZ ad S (eo ad (ad 0) (ad 7) rest)) sz (-71)) RL rfl (by decide) rfl (Nat.le_of_ble_eq_true rfl) (fun p e s m args below meth c C T => ?_)
  refine x_iload_n C 1 dL_act_0 rfl ?_
  refine x_if_ne C (t := 17) dL_act_1 (by decide) (fun _ => ?_) (fun c9 => absurd c9 (by decide))
  refine x_iload_n C 1 dL_act_17 rfl ?_
  refine x_iconst C (v := 1) dL_act_18 (by decide) ?_
  refine x_icmp_ne C (t := 35) dL_act_19 (by decide) (fun c9 => absurd c9 (by decide)) (fun _ => ?_)
  refine x_aload_n C 0 dL_act_22 rfl ?_
  refine x_iload_n C 2 dL_act_23 rfl ?_
  refine x_iload_n C 3 dL_act_24 rfl ?_
  refine x_iload C 4 dL_act_25 rfl ?_
  refine x_iload C 5 dL_act_27 rfl ?_
  refine x_catch C T (kk := 0) (x_runVX C T.2.2.1 (As := [.int x2, .int x3, .int x4, .int x5]) (rest := []) (c_X5_set_th hfl h) (cw_L_act_X5_set_th C) 32 rfl rfl rfl (Nat.le_of_ble_eq_true rfl) dL_act_29 ⟨Nat.le_refl _, Nat.le_refl _⟩) (tableOf []) ⟨0, 289, 290, 13⟩ (tableOf [(0, 289, 295, 15), (0, 289, 300, 17)]) rfl (fun z hz => nomatch hz) (by decide) (by decide) hk_L_act_13 (fun q => ?_)
  refine x_astore C (lv' := [(0, .ref (ad 32)), (1, .int 1), (2, .int x2), (3, .int x3), (4, .int x4), (5, .int x5), (6, .ref q)]) dL_act_290 (by decide) rfl ?_
  refine x_bipush C (v := (-71)) dL_act_292 (by decide) ?_
  exact x_iret C dL_act_294
set_option maxHeartbeats 4000000 in
set_option maxRecDepth 100000 in
theorem c_L_act_set_th1 {l : Launch} {D : va_G} {cI cZ cJ : ClassId} {ad : Nat → Nat} {S : St} {rest : va_W} {x2 : Int32} {x3 : Int32} {x4 : Int32} {x5 : Int32} (hfl : l.stackTraces = false) (h : X5_set S x2 x3 x4 x5 = some (2, 0, S)) : ∀ sz, Met l yL_act wsL_act (rm_L_act 1) (PY D (t3 cI cZ cJ) [.ref (ad 32), .int 1, .int x2, .int x3, .int x4, .int x5] (wE cI cZ ad S (eo ad (ad 0) (ad 7) rest)) sz) (QI D (t3 cI cZ cJ) (wE cI cZ ad S (eo ad (ad 0) (ad 7) rest)) (wE cI cZ ad S (eo ad (ad 0) (ad 7) rest)) sz (-72)) 1 6 (va_A (wE cI cZ ad S (eo ad (ad 0) (ad 7) rest)) sz) := by
  refine x_metH hfl (Qc := fun sz => QI D (t3 cI cZ cJ) (wE cI cZ ad S (eo ad (ad 0) (ad 7) rest)) (wE cI cZ ad S (eo ad (ad 0) (ad 7) rest)) sz (-72)) RL rfl (by decide) rfl (Nat.le_of_ble_eq_true rfl) (fun p e s m args below meth c C T => ?_)
  refine x_iload_n C 1 dL_act_0 rfl ?_
  refine x_if_ne C (t := 17) dL_act_1 (by decide) (fun _ => ?_) (fun c9 => absurd c9 (by decide))
  refine x_iload_n C 1 dL_act_17 rfl ?_
  refine x_iconst C (v := 1) dL_act_18 (by decide) ?_
  refine x_icmp_ne C (t := 35) dL_act_19 (by decide) (fun c9 => absurd c9 (by decide)) (fun _ => ?_)
  refine x_aload_n C 0 dL_act_22 rfl ?_
  refine x_iload_n C 2 dL_act_23 rfl ?_
  refine x_iload_n C 3 dL_act_24 rfl ?_
  refine x_iload C 4 dL_act_25 rfl ?_
  refine x_iload C 5 dL_act_27 rfl ?_
  refine x_catch C T (kk := 1) (x_runVX C T.2.2.1 (As := [.int x2, .int x3, .int x4, .int x5]) (rest := []) (c_X5_set_th hfl h) (cw_L_act_X5_set_th C) 32 rfl rfl rfl (Nat.le_of_ble_eq_true rfl) dL_act_29 ⟨Nat.le_refl _, Nat.le_refl _⟩) (tableOf [(0, 289, 290, 13)]) ⟨0, 289, 295, 15⟩ (tableOf [(0, 289, 300, 17)]) rfl (fun z hz => by
    rcases List.mem_cons.mp hz with rfl | hz
    · exact ⟨by decide, _, hk_L_act_13, T.2.2.2 1 0 (by decide) (by decide) (by decide)⟩
    exact nomatch hz) (by decide) (by decide) hk_L_act_15 (fun q => ?_)
  refine x_astore C (lv' := [(0, .ref (ad 32)), (1, .int 1), (2, .int x2), (3, .int x3), (4, .int x4), (5, .int x5), (6, .ref q)]) dL_act_295 (by decide) rfl ?_
  refine x_bipush C (v := (-72)) dL_act_297 (by decide) ?_
  exact x_iret C dL_act_299
set_option maxHeartbeats 4000000 in
set_option maxRecDepth 100000 in
theorem c_L_act_set_th2 {l : Launch} {D : va_G} {cI cZ cJ : ClassId} {ad : Nat → Nat} {S : St} {rest : va_W} {x2 : Int32} {x3 : Int32} {x4 : Int32} {x5 : Int32} (hfl : l.stackTraces = false) (h : X5_set S x2 x3 x4 x5 = some (3, 0, S)) : ∀ sz, Met l yL_act wsL_act (rm_L_act 1) (PY D (t3 cI cZ cJ) [.ref (ad 32), .int 1, .int x2, .int x3, .int x4, .int x5] (wE cI cZ ad S (eo ad (ad 0) (ad 7) rest)) sz) (QI D (t3 cI cZ cJ) (wE cI cZ ad S (eo ad (ad 0) (ad 7) rest)) (wE cI cZ ad S (eo ad (ad 0) (ad 7) rest)) sz (-73)) 1 6 (va_A (wE cI cZ ad S (eo ad (ad 0) (ad 7) rest)) sz) := by
  refine x_metH hfl (Qc := fun sz => QI D (t3 cI cZ cJ) (wE cI cZ ad S (eo ad (ad 0) (ad 7) rest)) (wE cI cZ ad S (eo ad (ad 0) (ad 7) rest)) sz (-73)) RL rfl (by decide) rfl (Nat.le_of_ble_eq_true rfl) (fun p e s m args below meth c C T => ?_)
  refine x_iload_n C 1 dL_act_0 rfl ?_
  refine x_if_ne C (t := 17) dL_act_1 (by decide) (fun _ => ?_) (fun c9 => absurd c9 (by decide))
  refine x_iload_n C 1 dL_act_17 rfl ?_
  refine x_iconst C (v := 1) dL_act_18 (by decide) ?_
  refine x_icmp_ne C (t := 35) dL_act_19 (by decide) (fun c9 => absurd c9 (by decide)) (fun _ => ?_)
  refine x_aload_n C 0 dL_act_22 rfl ?_
  refine x_iload_n C 2 dL_act_23 rfl ?_
  refine x_iload_n C 3 dL_act_24 rfl ?_
  refine x_iload C 4 dL_act_25 rfl ?_
  refine x_iload C 5 dL_act_27 rfl ?_
  refine x_catch C T (kk := 2) (x_runVX C T.2.2.1 (As := [.int x2, .int x3, .int x4, .int x5]) (rest := []) (c_X5_set_th hfl h) (cw_L_act_X5_set_th C) 32 rfl rfl rfl (Nat.le_of_ble_eq_true rfl) dL_act_29 ⟨Nat.le_refl _, Nat.le_refl _⟩) (tableOf [(0, 289, 290, 13), (0, 289, 295, 15)]) ⟨0, 289, 300, 17⟩ (tableOf []) rfl (fun z hz => by
    rcases List.mem_cons.mp hz with rfl | hz
    · exact ⟨by decide, _, hk_L_act_13, T.2.2.2 2 0 (by decide) (by decide) (by decide)⟩
    rcases List.mem_cons.mp hz with rfl | hz
    · exact ⟨by decide, _, hk_L_act_15, T.2.2.2 2 1 (by decide) (by decide) (by decide)⟩
    exact nomatch hz) (by decide) (by decide) hk_L_act_17 (fun q => ?_)
  refine x_astore C (lv' := [(0, .ref (ad 32)), (1, .int 1), (2, .int x2), (3, .int x3), (4, .int x4), (5, .int x5), (6, .ref q)]) dL_act_300 (by decide) rfl ?_
  refine x_bipush C (v := (-73)) dL_act_302 (by decide) ?_
  exact x_iret C dL_act_304
set_option maxHeartbeats 4000000 in
set_option maxRecDepth 100000 in
theorem c_L_act_move_th0 {l : Launch} {D : va_G} {cI cZ cJ : ClassId} {ad : Nat → Nat} {S : St} {rest : va_W} {x2 : Int32} {x3 : Int32} {x4 : Int32} {x5 : Int32} (hfl : l.stackTraces = false) (h : X5_move S x2 x3 x4 x5 = some (1, 0, S)) : ∀ sz, Met l yL_act wsL_act (rm_L_act 1) (PY D (t3 cI cZ cJ) [.ref (ad 32), .int 2, .int x2, .int x3, .int x4, .int x5] (wE cI cZ ad S (eo ad (ad 0) (ad 7) rest)) sz) (QI D (t3 cI cZ cJ) (wE cI cZ ad S (eo ad (ad 0) (ad 7) rest)) (wE cI cZ ad S (eo ad (ad 0) (ad 7) rest)) sz (-71)) 1 6 (va_A (wE cI cZ ad S (eo ad (ad 0) (ad 7) rest)) sz) := by
  refine x_metH hfl (Qc := fun sz => QI D (t3 cI cZ cJ) (wE cI cZ ad S (eo ad (ad 0) (ad 7) rest)) (wE cI cZ ad S (eo ad (ad 0) (ad 7) rest)) sz (-71)) RL rfl (by decide) rfl (Nat.le_of_ble_eq_true rfl) (fun p e s m args below meth c C T => ?_)
  refine x_iload_n C 1 dL_act_0 rfl ?_
  refine x_if_ne C (t := 17) dL_act_1 (by decide) (fun _ => ?_) (fun c9 => absurd c9 (by decide))
  refine x_iload_n C 1 dL_act_17 rfl ?_
  refine x_iconst C (v := 1) dL_act_18 (by decide) ?_
  refine x_icmp_ne C (t := 35) dL_act_19 (by decide) (fun _ => ?_) (fun c9 => absurd c9 (by decide))
  refine x_iload_n C 1 dL_act_35 rfl ?_
  refine x_iconst C (v := 2) dL_act_36 (by decide) ?_
  refine x_icmp_ne C (t := 53) dL_act_37 (by decide) (fun c9 => absurd c9 (by decide)) (fun _ => ?_)
  refine x_aload_n C 0 dL_act_40 rfl ?_
  refine x_iload_n C 2 dL_act_41 rfl ?_
  refine x_iload_n C 3 dL_act_42 rfl ?_
  refine x_iload C 4 dL_act_43 rfl ?_
  refine x_iload C 5 dL_act_45 rfl ?_
  refine x_catch C T (kk := 0) (x_runVX C T.2.2.1 (As := [.int x2, .int x3, .int x4, .int x5]) (rest := []) (c_X5_move_th hfl h) (cw_L_act_X5_move_th C) 32 rfl rfl rfl (Nat.le_of_ble_eq_true rfl) dL_act_47 ⟨Nat.le_refl _, Nat.le_refl _⟩) (tableOf []) ⟨0, 289, 290, 13⟩ (tableOf [(0, 289, 295, 15), (0, 289, 300, 17)]) rfl (fun z hz => nomatch hz) (by decide) (by decide) hk_L_act_13 (fun q => ?_)
  refine x_astore C (lv' := [(0, .ref (ad 32)), (1, .int 2), (2, .int x2), (3, .int x3), (4, .int x4), (5, .int x5), (6, .ref q)]) dL_act_290 (by decide) rfl ?_
  refine x_bipush C (v := (-71)) dL_act_292 (by decide) ?_
  exact x_iret C dL_act_294
set_option maxHeartbeats 4000000 in
set_option maxRecDepth 100000 in
theorem c_L_act_move_th1 {l : Launch} {D : va_G} {cI cZ cJ : ClassId} {ad : Nat → Nat} {S : St} {rest : va_W} {x2 : Int32} {x3 : Int32} {x4 : Int32} {x5 : Int32} (hfl : l.stackTraces = false) (h : X5_move S x2 x3 x4 x5 = some (2, 0, S)) : ∀ sz, Met l yL_act wsL_act (rm_L_act 1) (PY D (t3 cI cZ cJ) [.ref (ad 32), .int 2, .int x2, .int x3, .int x4, .int x5] (wE cI cZ ad S (eo ad (ad 0) (ad 7) rest)) sz) (QI D (t3 cI cZ cJ) (wE cI cZ ad S (eo ad (ad 0) (ad 7) rest)) (wE cI cZ ad S (eo ad (ad 0) (ad 7) rest)) sz (-72)) 1 6 (va_A (wE cI cZ ad S (eo ad (ad 0) (ad 7) rest)) sz) := by
  refine x_metH hfl (Qc := fun sz => QI D (t3 cI cZ cJ) (wE cI cZ ad S (eo ad (ad 0) (ad 7) rest)) (wE cI cZ ad S (eo ad (ad 0) (ad 7) rest)) sz (-72)) RL rfl (by decide) rfl (Nat.le_of_ble_eq_true rfl) (fun p e s m args below meth c C T => ?_)
  refine x_iload_n C 1 dL_act_0 rfl ?_
  refine x_if_ne C (t := 17) dL_act_1 (by decide) (fun _ => ?_) (fun c9 => absurd c9 (by decide))
  refine x_iload_n C 1 dL_act_17 rfl ?_
  refine x_iconst C (v := 1) dL_act_18 (by decide) ?_
  refine x_icmp_ne C (t := 35) dL_act_19 (by decide) (fun _ => ?_) (fun c9 => absurd c9 (by decide))
  refine x_iload_n C 1 dL_act_35 rfl ?_
  refine x_iconst C (v := 2) dL_act_36 (by decide) ?_
  refine x_icmp_ne C (t := 53) dL_act_37 (by decide) (fun c9 => absurd c9 (by decide)) (fun _ => ?_)
  refine x_aload_n C 0 dL_act_40 rfl ?_
  refine x_iload_n C 2 dL_act_41 rfl ?_
  refine x_iload_n C 3 dL_act_42 rfl ?_
  refine x_iload C 4 dL_act_43 rfl ?_
  refine x_iload C 5 dL_act_45 rfl ?_
  refine x_catch C T (kk := 1) (x_runVX C T.2.2.1 (As := [.int x2, .int x3, .int x4, .int x5]) (rest := []) (c_X5_move_th hfl h) (cw_L_act_X5_move_th C) 32 rfl rfl rfl (Nat.le_of_ble_eq_true rfl) dL_act_47 ⟨Nat.le_refl _, Nat.le_refl _⟩) (tableOf [(0, 289, 290, 13)]) ⟨0, 289, 295, 15⟩ (tableOf [(0, 289, 300, 17)]) rfl (fun z hz => by
    rcases List.mem_cons.mp hz with rfl | hz
    · exact ⟨by decide, _, hk_L_act_13, T.2.2.2 1 0 (by decide) (by decide) (by decide)⟩
    exact nomatch hz) (by decide) (by decide) hk_L_act_15 (fun q => ?_)
  refine x_astore C (lv' := [(0, .ref (ad 32)), (1, .int 2), (2, .int x2), (3, .int x3), (4, .int x4), (5, .int x5), (6, .ref q)]) dL_act_295 (by decide) rfl ?_
  refine x_bipush C (v := (-72)) dL_act_297 (by decide) ?_
  exact x_iret C dL_act_299
set_option maxHeartbeats 4000000 in
set_option maxRecDepth 100000 in
theorem c_L_act_move_th2 {l : Launch} {D : va_G} {cI cZ cJ : ClassId} {ad : Nat → Nat} {S : St} {rest : va_W} {x2 : Int32} {x3 : Int32} {x4 : Int32} {x5 : Int32} (hfl : l.stackTraces = false) (h : X5_move S x2 x3 x4 x5 = some (3, 0, S)) : ∀ sz, Met l yL_act wsL_act (rm_L_act 1) (PY D (t3 cI cZ cJ) [.ref (ad 32), .int 2, .int x2, .int x3, .int x4, .int x5] (wE cI cZ ad S (eo ad (ad 0) (ad 7) rest)) sz) (QI D (t3 cI cZ cJ) (wE cI cZ ad S (eo ad (ad 0) (ad 7) rest)) (wE cI cZ ad S (eo ad (ad 0) (ad 7) rest)) sz (-73)) 1 6 (va_A (wE cI cZ ad S (eo ad (ad 0) (ad 7) rest)) sz) := by
  refine x_metH hfl (Qc := fun sz => QI D (t3 cI cZ cJ) (wE cI cZ ad S (eo ad (ad 0) (ad 7) rest)) (wE cI cZ ad S (eo ad (ad 0) (ad 7) rest)) sz (-73)) RL rfl (by decide) rfl (Nat.le_of_ble_eq_true rfl) (fun p e s m args below meth c C T => ?_)
  refine x_iload_n C 1 dL_act_0 rfl ?_
  refine x_if_ne C (t := 17) dL_act_1 (by decide) (fun _ => ?_) (fun c9 => absurd c9 (by decide))
  refine x_iload_n C 1 dL_act_17 rfl ?_
  refine x_iconst C (v := 1) dL_act_18 (by decide) ?_
  refine x_icmp_ne C (t := 35) dL_act_19 (by decide) (fun _ => ?_) (fun c9 => absurd c9 (by decide))
  refine x_iload_n C 1 dL_act_35 rfl ?_
  refine x_iconst C (v := 2) dL_act_36 (by decide) ?_
  refine x_icmp_ne C (t := 53) dL_act_37 (by decide) (fun c9 => absurd c9 (by decide)) (fun _ => ?_)
  refine x_aload_n C 0 dL_act_40 rfl ?_
  refine x_iload_n C 2 dL_act_41 rfl ?_
  refine x_iload_n C 3 dL_act_42 rfl ?_
  refine x_iload C 4 dL_act_43 rfl ?_
  refine x_iload C 5 dL_act_45 rfl ?_
  refine x_catch C T (kk := 2) (x_runVX C T.2.2.1 (As := [.int x2, .int x3, .int x4, .int x5]) (rest := []) (c_X5_move_th hfl h) (cw_L_act_X5_move_th C) 32 rfl rfl rfl (Nat.le_of_ble_eq_true rfl) dL_act_47 ⟨Nat.le_refl _, Nat.le_refl _⟩) (tableOf [(0, 289, 290, 13), (0, 289, 295, 15)]) ⟨0, 289, 300, 17⟩ (tableOf []) rfl (fun z hz => by
    rcases List.mem_cons.mp hz with rfl | hz
    · exact ⟨by decide, _, hk_L_act_13, T.2.2.2 2 0 (by decide) (by decide) (by decide)⟩
    rcases List.mem_cons.mp hz with rfl | hz
    · exact ⟨by decide, _, hk_L_act_15, T.2.2.2 2 1 (by decide) (by decide) (by decide)⟩
    exact nomatch hz) (by decide) (by decide) hk_L_act_17 (fun q => ?_)
  refine x_astore C (lv' := [(0, .ref (ad 32)), (1, .int 2), (2, .int x2), (3, .int x3), (4, .int x4), (5, .int x5), (6, .ref q)]) dL_act_300 (by decide) rfl ?_
  refine x_bipush C (v := (-73)) dL_act_302 (by decide) ?_
  exact x_iret C dL_act_304
set_option maxHeartbeats 4000000 in
set_option maxRecDepth 100000 in
theorem c_L_act_delete_th0 {l : Launch} {D : va_G} {cI cZ cJ : ClassId} {ad : Nat → Nat} {S : St} {rest : va_W} {x2 : Int32} {x3 : Int32} {x4 : Int32} {x5 : Int32} (hfl : l.stackTraces = false) (h : X5_delete S x2 x3 = some (1, 0, S)) : ∀ sz, Met l yL_act wsL_act (rm_L_act 1) (PY D (t3 cI cZ cJ) [.ref (ad 32), .int 3, .int x2, .int x3, .int x4, .int x5] (wE cI cZ ad S (eo ad (ad 0) (ad 7) rest)) sz) (QI D (t3 cI cZ cJ) (wE cI cZ ad S (eo ad (ad 0) (ad 7) rest)) (wE cI cZ ad S (eo ad (ad 0) (ad 7) rest)) sz (-71)) 1 6 (va_A (wE cI cZ ad S (eo ad (ad 0) (ad 7) rest)) sz) := by
  refine x_metH hfl (Qc := fun sz => QI D (t3 cI cZ cJ) (wE cI cZ ad S (eo ad (ad 0) (ad 7) rest)) (wE cI cZ ad S (eo ad (ad 0) (ad 7) rest)) sz (-71)) RL rfl (by decide) rfl (Nat.le_of_ble_eq_true rfl) (fun p e s m args below meth c C T => ?_)
  refine x_iload_n C 1 dL_act_0 rfl ?_
  refine x_if_ne C (t := 17) dL_act_1 (by decide) (fun _ => ?_) (fun c9 => absurd c9 (by decide))
  refine x_iload_n C 1 dL_act_17 rfl ?_
  refine x_iconst C (v := 1) dL_act_18 (by decide) ?_
  refine x_icmp_ne C (t := 35) dL_act_19 (by decide) (fun _ => ?_) (fun c9 => absurd c9 (by decide))
  refine x_iload_n C 1 dL_act_35 rfl ?_
  refine x_iconst C (v := 2) dL_act_36 (by decide) ?_
  refine x_icmp_ne C (t := 53) dL_act_37 (by decide) (fun _ => ?_) (fun c9 => absurd c9 (by decide))
  refine x_iload_n C 1 dL_act_53 rfl ?_
  refine x_iconst C (v := 3) dL_act_54 (by decide) ?_
  refine x_icmp_ne C (t := 67) dL_act_55 (by decide) (fun c9 => absurd c9 (by decide)) (fun _ => ?_)
  refine x_aload_n C 0 dL_act_58 rfl ?_
  refine x_iload_n C 2 dL_act_59 rfl ?_
  refine x_iload_n C 3 dL_act_60 rfl ?_
  refine x_catch C T (kk := 0) (x_runVX C T.2.2.1 (As := [.int x2, .int x3]) (rest := []) (c_X5_delete_th hfl h) (cw_L_act_X5_delete_th C) 32 rfl rfl rfl (Nat.le_of_ble_eq_true rfl) dL_act_61 ⟨Nat.le_refl _, Nat.le_refl _⟩) (tableOf []) ⟨0, 289, 290, 13⟩ (tableOf [(0, 289, 295, 15), (0, 289, 300, 17)]) rfl (fun z hz => nomatch hz) (by decide) (by decide) hk_L_act_13 (fun q => ?_)
  refine x_astore C (lv' := [(0, .ref (ad 32)), (1, .int 3), (2, .int x2), (3, .int x3), (4, .int x4), (5, .int x5), (6, .ref q)]) dL_act_290 (by decide) rfl ?_
  refine x_bipush C (v := (-71)) dL_act_292 (by decide) ?_
  exact x_iret C dL_act_294
set_option maxHeartbeats 4000000 in
set_option maxRecDepth 100000 in
theorem c_L_act_delete_th2 {l : Launch} {D : va_G} {cI cZ cJ : ClassId} {ad : Nat → Nat} {S : St} {rest : va_W} {x2 : Int32} {x3 : Int32} {x4 : Int32} {x5 : Int32} (hfl : l.stackTraces = false) (h : X5_delete S x2 x3 = some (3, 0, S)) : ∀ sz, Met l yL_act wsL_act (rm_L_act 1) (PY D (t3 cI cZ cJ) [.ref (ad 32), .int 3, .int x2, .int x3, .int x4, .int x5] (wE cI cZ ad S (eo ad (ad 0) (ad 7) rest)) sz) (QI D (t3 cI cZ cJ) (wE cI cZ ad S (eo ad (ad 0) (ad 7) rest)) (wE cI cZ ad S (eo ad (ad 0) (ad 7) rest)) sz (-73)) 1 6 (va_A (wE cI cZ ad S (eo ad (ad 0) (ad 7) rest)) sz) := by
  refine x_metH hfl (Qc := fun sz => QI D (t3 cI cZ cJ) (wE cI cZ ad S (eo ad (ad 0) (ad 7) rest)) (wE cI cZ ad S (eo ad (ad 0) (ad 7) rest)) sz (-73)) RL rfl (by decide) rfl (Nat.le_of_ble_eq_true rfl) (fun p e s m args below meth c C T => ?_)
  refine x_iload_n C 1 dL_act_0 rfl ?_
  refine x_if_ne C (t := 17) dL_act_1 (by decide) (fun _ => ?_) (fun c9 => absurd c9 (by decide))
  refine x_iload_n C 1 dL_act_17 rfl ?_
  refine x_iconst C (v := 1) dL_act_18 (by decide) ?_
  refine x_icmp_ne C (t := 35) dL_act_19 (by decide) (fun _ => ?_) (fun c9 => absurd c9 (by decide))
  refine x_iload_n C 1 dL_act_35 rfl ?_
  refine x_iconst C (v := 2) dL_act_36 (by decide) ?_
  refine x_icmp_ne C (t := 53) dL_act_37 (by decide) (fun _ => ?_) (fun c9 => absurd c9 (by decide))
  refine x_iload_n C 1 dL_act_53 rfl ?_
  refine x_iconst C (v := 3) dL_act_54 (by decide) ?_
  refine x_icmp_ne C (t := 67) dL_act_55 (by decide) (fun c9 => absurd c9 (by decide)) (fun _ => ?_)
  refine x_aload_n C 0 dL_act_58 rfl ?_
  refine x_iload_n C 2 dL_act_59 rfl ?_
  refine x_iload_n C 3 dL_act_60 rfl ?_
  refine x_catch C T (kk := 2) (x_runVX C T.2.2.1 (As := [.int x2, .int x3]) (rest := []) (c_X5_delete_th hfl h) (cw_L_act_X5_delete_th C) 32 rfl rfl rfl (Nat.le_of_ble_eq_true rfl) dL_act_61 ⟨Nat.le_refl _, Nat.le_refl _⟩) (tableOf [(0, 289, 290, 13), (0, 289, 295, 15)]) ⟨0, 289, 300, 17⟩ (tableOf []) rfl (fun z hz => by
    rcases List.mem_cons.mp hz with rfl | hz
    · exact ⟨by decide, _, hk_L_act_13, T.2.2.2 2 0 (by decide) (by decide) (by decide)⟩
    rcases List.mem_cons.mp hz with rfl | hz
    · exact ⟨by decide, _, hk_L_act_15, T.2.2.2 2 1 (by decide) (by decide) (by decide)⟩
    exact nomatch hz) (by decide) (by decide) hk_L_act_17 (fun q => ?_)
  refine x_astore C (lv' := [(0, .ref (ad 32)), (1, .int 3), (2, .int x2), (3, .int x3), (4, .int x4), (5, .int x5), (6, .ref q)]) dL_act_300 (by decide) rfl ?_
  refine x_bipush C (v := (-73)) dL_act_302 (by decide) ?_
  exact x_iret C dL_act_304
set_option maxHeartbeats 4000000 in
set_option maxRecDepth 100000 in
theorem c_L_act_carry_th0 {l : Launch} {D : va_G} {cI cZ cJ : ClassId} {ad : Nat → Nat} {S : St} {rest : va_W} {x2 : Int32} {x3 : Int32} {x4 : Int32} {x5 : Int32} (hfl : l.stackTraces = false) (h : X5_carry S x2 x3 = some (1, 0, S)) : ∀ sz, Met l yL_act wsL_act (rm_L_act 1) (PY D (t3 cI cZ cJ) [.ref (ad 32), .int 4, .int x2, .int x3, .int x4, .int x5] (wE cI cZ ad S (eo ad (ad 0) (ad 7) rest)) sz) (QI D (t3 cI cZ cJ) (wE cI cZ ad S (eo ad (ad 0) (ad 7) rest)) (wE cI cZ ad S (eo ad (ad 0) (ad 7) rest)) sz (-71)) 1 6 (va_A (wE cI cZ ad S (eo ad (ad 0) (ad 7) rest)) sz) := by
  refine x_metH hfl (Qc := fun sz => QI D (t3 cI cZ cJ) (wE cI cZ ad S (eo ad (ad 0) (ad 7) rest)) (wE cI cZ ad S (eo ad (ad 0) (ad 7) rest)) sz (-71)) RL rfl (by decide) rfl (Nat.le_of_ble_eq_true rfl) (fun p e s m args below meth c C T => ?_)
  refine x_iload_n C 1 dL_act_0 rfl ?_
  refine x_if_ne C (t := 17) dL_act_1 (by decide) (fun _ => ?_) (fun c9 => absurd c9 (by decide))
  refine x_iload_n C 1 dL_act_17 rfl ?_
  refine x_iconst C (v := 1) dL_act_18 (by decide) ?_
  refine x_icmp_ne C (t := 35) dL_act_19 (by decide) (fun _ => ?_) (fun c9 => absurd c9 (by decide))
  refine x_iload_n C 1 dL_act_35 rfl ?_
  refine x_iconst C (v := 2) dL_act_36 (by decide) ?_
  refine x_icmp_ne C (t := 53) dL_act_37 (by decide) (fun _ => ?_) (fun c9 => absurd c9 (by decide))
  refine x_iload_n C 1 dL_act_53 rfl ?_
  refine x_iconst C (v := 3) dL_act_54 (by decide) ?_
  refine x_icmp_ne C (t := 67) dL_act_55 (by decide) (fun _ => ?_) (fun c9 => absurd c9 (by decide))
  refine x_iload_n C 1 dL_act_67 rfl ?_
  refine x_iconst C (v := 4) dL_act_68 (by decide) ?_
  refine x_icmp_ne C (t := 89) dL_act_69 (by decide) (fun c9 => absurd c9 (by decide)) (fun _ => ?_)
  refine x_aload_n C 0 dL_act_72 rfl ?_
  refine x_iload_n C 2 dL_act_73 rfl ?_
  refine x_iload_n C 3 dL_act_74 rfl ?_
  refine x_catch C T (kk := 0) (x_runVX C T.2.2.1 (As := [.int x2, .int x3]) (rest := []) (c_X5_carry_th hfl h) (cw_L_act_X5_carry_th C) 32 rfl rfl rfl (Nat.le_of_ble_eq_true rfl) dL_act_75 ⟨Nat.le_refl _, Nat.le_refl _⟩) (tableOf []) ⟨0, 289, 290, 13⟩ (tableOf [(0, 289, 295, 15), (0, 289, 300, 17)]) rfl (fun z hz => nomatch hz) (by decide) (by decide) hk_L_act_13 (fun q => ?_)
  refine x_astore C (lv' := [(0, .ref (ad 32)), (1, .int 4), (2, .int x2), (3, .int x3), (4, .int x4), (5, .int x5), (6, .ref q)]) dL_act_290 (by decide) rfl ?_
  refine x_bipush C (v := (-71)) dL_act_292 (by decide) ?_
  exact x_iret C dL_act_294
set_option maxHeartbeats 4000000 in
set_option maxRecDepth 100000 in
theorem c_L_act_timeOf_th0 {l : Launch} {D : va_G} {cI cZ cJ : ClassId} {ad : Nat → Nat} {S : St} {rest : va_W} {x2 : Int32} {x3 : Int32} {x4 : Int32} {x5 : Int32} (hfl : l.stackTraces = false) (h : X5_timeOf S x2 = some (1, 0)) : ∀ sz, Met l yL_act wsL_act (rm_L_act 1) (PY D (t3 cI cZ cJ) [.ref (ad 32), .int 5, .int x2, .int x3, .int x4, .int x5] (wE cI cZ ad S (eo ad (ad 0) (ad 7) rest)) sz) (QI D (t3 cI cZ cJ) (wE cI cZ ad S (eo ad (ad 0) (ad 7) rest)) (wE cI cZ ad S (eo ad (ad 0) (ad 7) rest)) sz (-71)) 1 6 (va_A (wE cI cZ ad S (eo ad (ad 0) (ad 7) rest)) sz) := by
  refine x_metH hfl (Qc := fun sz => QI D (t3 cI cZ cJ) (wE cI cZ ad S (eo ad (ad 0) (ad 7) rest)) (wE cI cZ ad S (eo ad (ad 0) (ad 7) rest)) sz (-71)) RL rfl (by decide) rfl (Nat.le_of_ble_eq_true rfl) (fun p e s m args below meth c C T => ?_)
  refine x_iload_n C 1 dL_act_0 rfl ?_
  refine x_if_ne C (t := 17) dL_act_1 (by decide) (fun _ => ?_) (fun c9 => absurd c9 (by decide))
  refine x_iload_n C 1 dL_act_17 rfl ?_
  refine x_iconst C (v := 1) dL_act_18 (by decide) ?_
  refine x_icmp_ne C (t := 35) dL_act_19 (by decide) (fun _ => ?_) (fun c9 => absurd c9 (by decide))
  refine x_iload_n C 1 dL_act_35 rfl ?_
  refine x_iconst C (v := 2) dL_act_36 (by decide) ?_
  refine x_icmp_ne C (t := 53) dL_act_37 (by decide) (fun _ => ?_) (fun c9 => absurd c9 (by decide))
  refine x_iload_n C 1 dL_act_53 rfl ?_
  refine x_iconst C (v := 3) dL_act_54 (by decide) ?_
  refine x_icmp_ne C (t := 67) dL_act_55 (by decide) (fun _ => ?_) (fun c9 => absurd c9 (by decide))
  refine x_iload_n C 1 dL_act_67 rfl ?_
  refine x_iconst C (v := 4) dL_act_68 (by decide) ?_
  refine x_icmp_ne C (t := 89) dL_act_69 (by decide) (fun _ => ?_) (fun c9 => absurd c9 (by decide))
  refine x_iload_n C 1 dL_act_89 rfl ?_
  refine x_iconst C (v := 5) dL_act_90 (by decide) ?_
  refine x_icmp_ne C (t := 102) dL_act_91 (by decide) (fun c9 => absurd c9 (by decide)) (fun _ => ?_)
  refine x_aload_n C 0 dL_act_94 rfl ?_
  refine x_iload_n C 2 dL_act_95 rfl ?_
  refine x_catch C T (kk := 0) (x_runVX C T.2.2.1 (As := [.int x2]) (rest := []) (c_X5_timeOf_th hfl h) (cw_L_act_X5_timeOf_th C) 32 rfl rfl rfl (Nat.le_of_ble_eq_true rfl) dL_act_96 ⟨Nat.le_refl _, Nat.le_refl _⟩) (tableOf []) ⟨0, 289, 290, 13⟩ (tableOf [(0, 289, 295, 15), (0, 289, 300, 17)]) rfl (fun z hz => nomatch hz) (by decide) (by decide) hk_L_act_13 (fun q => ?_)
  refine x_astore C (lv' := [(0, .ref (ad 32)), (1, .int 5), (2, .int x2), (3, .int x3), (4, .int x4), (5, .int x5), (6, .ref q)]) dL_act_290 (by decide) rfl ?_
  refine x_bipush C (v := (-71)) dL_act_292 (by decide) ?_
  exact x_iret C dL_act_294
set_option maxHeartbeats 4000000 in
set_option maxRecDepth 100000 in
theorem c_L_act_entries_th0 {l : Launch} {D : va_G} {cI cZ cJ : ClassId} {ad : Nat → Nat} {S : St} {rest : va_W} {x2 : Int32} {x3 : Int32} {x4 : Int32} {x5 : Int32} (hfl : l.stackTraces = false) (h : X5_entries S x2 = some (1, 0)) : ∀ sz, Met l yL_act wsL_act (rm_L_act 1) (PY D (t3 cI cZ cJ) [.ref (ad 32), .int 6, .int x2, .int x3, .int x4, .int x5] (wE cI cZ ad S (eo ad (ad 0) (ad 7) rest)) sz) (QI D (t3 cI cZ cJ) (wE cI cZ ad S (eo ad (ad 0) (ad 7) rest)) (wE cI cZ ad S (eo ad (ad 0) (ad 7) rest)) sz (-71)) 1 6 (va_A (wE cI cZ ad S (eo ad (ad 0) (ad 7) rest)) sz) := by
  refine x_metH hfl (Qc := fun sz => QI D (t3 cI cZ cJ) (wE cI cZ ad S (eo ad (ad 0) (ad 7) rest)) (wE cI cZ ad S (eo ad (ad 0) (ad 7) rest)) sz (-71)) RL rfl (by decide) rfl (Nat.le_of_ble_eq_true rfl) (fun p e s m args below meth c C T => ?_)
  refine x_iload_n C 1 dL_act_0 rfl ?_
  refine x_if_ne C (t := 17) dL_act_1 (by decide) (fun _ => ?_) (fun c9 => absurd c9 (by decide))
  refine x_iload_n C 1 dL_act_17 rfl ?_
  refine x_iconst C (v := 1) dL_act_18 (by decide) ?_
  refine x_icmp_ne C (t := 35) dL_act_19 (by decide) (fun _ => ?_) (fun c9 => absurd c9 (by decide))
  refine x_iload_n C 1 dL_act_35 rfl ?_
  refine x_iconst C (v := 2) dL_act_36 (by decide) ?_
  refine x_icmp_ne C (t := 53) dL_act_37 (by decide) (fun _ => ?_) (fun c9 => absurd c9 (by decide))
  refine x_iload_n C 1 dL_act_53 rfl ?_
  refine x_iconst C (v := 3) dL_act_54 (by decide) ?_
  refine x_icmp_ne C (t := 67) dL_act_55 (by decide) (fun _ => ?_) (fun c9 => absurd c9 (by decide))
  refine x_iload_n C 1 dL_act_67 rfl ?_
  refine x_iconst C (v := 4) dL_act_68 (by decide) ?_
  refine x_icmp_ne C (t := 89) dL_act_69 (by decide) (fun _ => ?_) (fun c9 => absurd c9 (by decide))
  refine x_iload_n C 1 dL_act_89 rfl ?_
  refine x_iconst C (v := 5) dL_act_90 (by decide) ?_
  refine x_icmp_ne C (t := 102) dL_act_91 (by decide) (fun _ => ?_) (fun c9 => absurd c9 (by decide))
  refine x_iload_n C 1 dL_act_102 rfl ?_
  refine x_bipush C (v := 6) dL_act_103 (by decide) ?_
  refine x_icmp_ne C (t := 116) dL_act_105 (by decide) (fun c9 => absurd c9 (by decide)) (fun _ => ?_)
  refine x_aload_n C 0 dL_act_108 rfl ?_
  refine x_iload_n C 2 dL_act_109 rfl ?_
  refine x_catch C T (kk := 0) (x_runVX C T.2.2.1 (As := [.int x2]) (rest := []) (c_X5_entries_th hfl h) (cw_L_act_X5_entries_th C) 32 rfl rfl rfl (Nat.le_of_ble_eq_true rfl) dL_act_110 ⟨Nat.le_refl _, Nat.le_refl _⟩) (tableOf []) ⟨0, 289, 290, 13⟩ (tableOf [(0, 289, 295, 15), (0, 289, 300, 17)]) rfl (fun z hz => nomatch hz) (by decide) (by decide) hk_L_act_13 (fun q => ?_)
  refine x_astore C (lv' := [(0, .ref (ad 32)), (1, .int 6), (2, .int x2), (3, .int x3), (4, .int x4), (5, .int x5), (6, .ref q)]) dL_act_290 (by decide) rfl ?_
  refine x_bipush C (v := (-71)) dL_act_292 (by decide) ?_
  exact x_iret C dL_act_294
set_option maxHeartbeats 4000000 in
set_option maxRecDepth 100000 in
theorem c_L_act_isThere_th0 {l : Launch} {D : va_G} {cI cZ cJ : ClassId} {ad : Nat → Nat} {S : St} {rest : va_W} {x2 : Int32} {x3 : Int32} {x4 : Int32} {x5 : Int32} (hfl : l.stackTraces = false) (h : X5_isThere S x2 x3 = some (1, 0)) : ∀ sz, Met l yL_act wsL_act (rm_L_act 1) (PY D (t3 cI cZ cJ) [.ref (ad 32), .int 7, .int x2, .int x3, .int x4, .int x5] (wE cI cZ ad S (eo ad (ad 0) (ad 7) rest)) sz) (QI D (t3 cI cZ cJ) (wE cI cZ ad S (eo ad (ad 0) (ad 7) rest)) (wE cI cZ ad S (eo ad (ad 0) (ad 7) rest)) sz (-71)) 1 6 (va_A (wE cI cZ ad S (eo ad (ad 0) (ad 7) rest)) sz) := by
  refine x_metH hfl (Qc := fun sz => QI D (t3 cI cZ cJ) (wE cI cZ ad S (eo ad (ad 0) (ad 7) rest)) (wE cI cZ ad S (eo ad (ad 0) (ad 7) rest)) sz (-71)) RL rfl (by decide) rfl (Nat.le_of_ble_eq_true rfl) (fun p e s m args below meth c C T => ?_)
  refine x_iload_n C 1 dL_act_0 rfl ?_
  refine x_if_ne C (t := 17) dL_act_1 (by decide) (fun _ => ?_) (fun c9 => absurd c9 (by decide))
  refine x_iload_n C 1 dL_act_17 rfl ?_
  refine x_iconst C (v := 1) dL_act_18 (by decide) ?_
  refine x_icmp_ne C (t := 35) dL_act_19 (by decide) (fun _ => ?_) (fun c9 => absurd c9 (by decide))
  refine x_iload_n C 1 dL_act_35 rfl ?_
  refine x_iconst C (v := 2) dL_act_36 (by decide) ?_
  refine x_icmp_ne C (t := 53) dL_act_37 (by decide) (fun _ => ?_) (fun c9 => absurd c9 (by decide))
  refine x_iload_n C 1 dL_act_53 rfl ?_
  refine x_iconst C (v := 3) dL_act_54 (by decide) ?_
  refine x_icmp_ne C (t := 67) dL_act_55 (by decide) (fun _ => ?_) (fun c9 => absurd c9 (by decide))
  refine x_iload_n C 1 dL_act_67 rfl ?_
  refine x_iconst C (v := 4) dL_act_68 (by decide) ?_
  refine x_icmp_ne C (t := 89) dL_act_69 (by decide) (fun _ => ?_) (fun c9 => absurd c9 (by decide))
  refine x_iload_n C 1 dL_act_89 rfl ?_
  refine x_iconst C (v := 5) dL_act_90 (by decide) ?_
  refine x_icmp_ne C (t := 102) dL_act_91 (by decide) (fun _ => ?_) (fun c9 => absurd c9 (by decide))
  refine x_iload_n C 1 dL_act_102 rfl ?_
  refine x_bipush C (v := 6) dL_act_103 (by decide) ?_
  refine x_icmp_ne C (t := 116) dL_act_105 (by decide) (fun _ => ?_) (fun c9 => absurd c9 (by decide))
  refine x_iload_n C 1 dL_act_116 rfl ?_
  refine x_bipush C (v := 7) dL_act_117 (by decide) ?_
  refine x_icmp_ne C (t := 139) dL_act_119 (by decide) (fun c9 => absurd c9 (by decide)) (fun _ => ?_)
  refine x_aload_n C 0 dL_act_122 rfl ?_
  refine x_iload_n C 2 dL_act_123 rfl ?_
  refine x_iload_n C 3 dL_act_124 rfl ?_
  refine x_catch C T (kk := 0) (x_runVX C T.2.2.1 (As := [.int x2, .int x3]) (rest := []) (c_X5_isThere_th hfl h) (cw_L_act_X5_isThere_th C) 32 rfl rfl rfl (Nat.le_of_ble_eq_true rfl) dL_act_125 ⟨Nat.le_refl _, Nat.le_refl _⟩) (tableOf []) ⟨0, 289, 290, 13⟩ (tableOf [(0, 289, 295, 15), (0, 289, 300, 17)]) rfl (fun z hz => nomatch hz) (by decide) (by decide) hk_L_act_13 (fun q => ?_)
  refine x_astore C (lv' := [(0, .ref (ad 32)), (1, .int 7), (2, .int x2), (3, .int x3), (4, .int x4), (5, .int x5), (6, .ref q)]) dL_act_290 (by decide) rfl ?_
  refine x_bipush C (v := (-71)) dL_act_292 (by decide) ?_
  exact x_iret C dL_act_294
set_option maxHeartbeats 4000000 in
set_option maxRecDepth 100000 in
theorem c_L_act_parentOf_th0 {l : Launch} {D : va_G} {cI cZ cJ : ClassId} {ad : Nat → Nat} {S : St} {rest : va_W} {x2 : Int32} {x3 : Int32} {x4 : Int32} {x5 : Int32} (hfl : l.stackTraces = false) (h : X5_parentOf S x2 x3 = some (1, 0)) : ∀ sz, Met l yL_act wsL_act (rm_L_act 1) (PY D (t3 cI cZ cJ) [.ref (ad 32), .int 8, .int x2, .int x3, .int x4, .int x5] (wE cI cZ ad S (eo ad (ad 0) (ad 7) rest)) sz) (QI D (t3 cI cZ cJ) (wE cI cZ ad S (eo ad (ad 0) (ad 7) rest)) (wE cI cZ ad S (eo ad (ad 0) (ad 7) rest)) sz (-71)) 1 6 (va_A (wE cI cZ ad S (eo ad (ad 0) (ad 7) rest)) sz) := by
  refine x_metH hfl (Qc := fun sz => QI D (t3 cI cZ cJ) (wE cI cZ ad S (eo ad (ad 0) (ad 7) rest)) (wE cI cZ ad S (eo ad (ad 0) (ad 7) rest)) sz (-71)) RL rfl (by decide) rfl (Nat.le_of_ble_eq_true rfl) (fun p e s m args below meth c C T => ?_)
  refine x_iload_n C 1 dL_act_0 rfl ?_
  refine x_if_ne C (t := 17) dL_act_1 (by decide) (fun _ => ?_) (fun c9 => absurd c9 (by decide))
  refine x_iload_n C 1 dL_act_17 rfl ?_
  refine x_iconst C (v := 1) dL_act_18 (by decide) ?_
  refine x_icmp_ne C (t := 35) dL_act_19 (by decide) (fun _ => ?_) (fun c9 => absurd c9 (by decide))
  refine x_iload_n C 1 dL_act_35 rfl ?_
  refine x_iconst C (v := 2) dL_act_36 (by decide) ?_
  refine x_icmp_ne C (t := 53) dL_act_37 (by decide) (fun _ => ?_) (fun c9 => absurd c9 (by decide))
  refine x_iload_n C 1 dL_act_53 rfl ?_
  refine x_iconst C (v := 3) dL_act_54 (by decide) ?_
  refine x_icmp_ne C (t := 67) dL_act_55 (by decide) (fun _ => ?_) (fun c9 => absurd c9 (by decide))
  refine x_iload_n C 1 dL_act_67 rfl ?_
  refine x_iconst C (v := 4) dL_act_68 (by decide) ?_
  refine x_icmp_ne C (t := 89) dL_act_69 (by decide) (fun _ => ?_) (fun c9 => absurd c9 (by decide))
  refine x_iload_n C 1 dL_act_89 rfl ?_
  refine x_iconst C (v := 5) dL_act_90 (by decide) ?_
  refine x_icmp_ne C (t := 102) dL_act_91 (by decide) (fun _ => ?_) (fun c9 => absurd c9 (by decide))
  refine x_iload_n C 1 dL_act_102 rfl ?_
  refine x_bipush C (v := 6) dL_act_103 (by decide) ?_
  refine x_icmp_ne C (t := 116) dL_act_105 (by decide) (fun _ => ?_) (fun c9 => absurd c9 (by decide))
  refine x_iload_n C 1 dL_act_116 rfl ?_
  refine x_bipush C (v := 7) dL_act_117 (by decide) ?_
  refine x_icmp_ne C (t := 139) dL_act_119 (by decide) (fun _ => ?_) (fun c9 => absurd c9 (by decide))
  refine x_iload_n C 1 dL_act_139 rfl ?_
  refine x_bipush C (v := 8) dL_act_140 (by decide) ?_
  refine x_icmp_ne C (t := 154) dL_act_142 (by decide) (fun c9 => absurd c9 (by decide)) (fun _ => ?_)
  refine x_aload_n C 0 dL_act_145 rfl ?_
  refine x_iload_n C 2 dL_act_146 rfl ?_
  refine x_iload_n C 3 dL_act_147 rfl ?_
  refine x_catch C T (kk := 0) (x_runVX C T.2.2.1 (As := [.int x2, .int x3]) (rest := []) (c_X5_parentOf_th hfl h) (cw_L_act_X5_parentOf_th C) 32 rfl rfl rfl (Nat.le_of_ble_eq_true rfl) dL_act_148 ⟨Nat.le_refl _, Nat.le_refl _⟩) (tableOf []) ⟨0, 289, 290, 13⟩ (tableOf [(0, 289, 295, 15), (0, 289, 300, 17)]) rfl (fun z hz => nomatch hz) (by decide) (by decide) hk_L_act_13 (fun q => ?_)
  refine x_astore C (lv' := [(0, .ref (ad 32)), (1, .int 8), (2, .int x2), (3, .int x3), (4, .int x4), (5, .int x5), (6, .ref q)]) dL_act_290 (by decide) rfl ?_
  refine x_bipush C (v := (-71)) dL_act_292 (by decide) ?_
  exact x_iret C dL_act_294
set_option maxHeartbeats 4000000 in
set_option maxRecDepth 100000 in
theorem c_L_act_labelOf_th0 {l : Launch} {D : va_G} {cI cZ cJ : ClassId} {ad : Nat → Nat} {S : St} {rest : va_W} {x2 : Int32} {x3 : Int32} {x4 : Int32} {x5 : Int32} (hfl : l.stackTraces = false) (h : X5_labelOf S x2 x3 = some (1, 0)) : ∀ sz, Met l yL_act wsL_act (rm_L_act 1) (PY D (t3 cI cZ cJ) [.ref (ad 32), .int 9, .int x2, .int x3, .int x4, .int x5] (wE cI cZ ad S (eo ad (ad 0) (ad 7) rest)) sz) (QI D (t3 cI cZ cJ) (wE cI cZ ad S (eo ad (ad 0) (ad 7) rest)) (wE cI cZ ad S (eo ad (ad 0) (ad 7) rest)) sz (-71)) 1 6 (va_A (wE cI cZ ad S (eo ad (ad 0) (ad 7) rest)) sz) := by
  refine x_metH hfl (Qc := fun sz => QI D (t3 cI cZ cJ) (wE cI cZ ad S (eo ad (ad 0) (ad 7) rest)) (wE cI cZ ad S (eo ad (ad 0) (ad 7) rest)) sz (-71)) RL rfl (by decide) rfl (Nat.le_of_ble_eq_true rfl) (fun p e s m args below meth c C T => ?_)
  refine x_iload_n C 1 dL_act_0 rfl ?_
  refine x_if_ne C (t := 17) dL_act_1 (by decide) (fun _ => ?_) (fun c9 => absurd c9 (by decide))
  refine x_iload_n C 1 dL_act_17 rfl ?_
  refine x_iconst C (v := 1) dL_act_18 (by decide) ?_
  refine x_icmp_ne C (t := 35) dL_act_19 (by decide) (fun _ => ?_) (fun c9 => absurd c9 (by decide))
  refine x_iload_n C 1 dL_act_35 rfl ?_
  refine x_iconst C (v := 2) dL_act_36 (by decide) ?_
  refine x_icmp_ne C (t := 53) dL_act_37 (by decide) (fun _ => ?_) (fun c9 => absurd c9 (by decide))
  refine x_iload_n C 1 dL_act_53 rfl ?_
  refine x_iconst C (v := 3) dL_act_54 (by decide) ?_
  refine x_icmp_ne C (t := 67) dL_act_55 (by decide) (fun _ => ?_) (fun c9 => absurd c9 (by decide))
  refine x_iload_n C 1 dL_act_67 rfl ?_
  refine x_iconst C (v := 4) dL_act_68 (by decide) ?_
  refine x_icmp_ne C (t := 89) dL_act_69 (by decide) (fun _ => ?_) (fun c9 => absurd c9 (by decide))
  refine x_iload_n C 1 dL_act_89 rfl ?_
  refine x_iconst C (v := 5) dL_act_90 (by decide) ?_
  refine x_icmp_ne C (t := 102) dL_act_91 (by decide) (fun _ => ?_) (fun c9 => absurd c9 (by decide))
  refine x_iload_n C 1 dL_act_102 rfl ?_
  refine x_bipush C (v := 6) dL_act_103 (by decide) ?_
  refine x_icmp_ne C (t := 116) dL_act_105 (by decide) (fun _ => ?_) (fun c9 => absurd c9 (by decide))
  refine x_iload_n C 1 dL_act_116 rfl ?_
  refine x_bipush C (v := 7) dL_act_117 (by decide) ?_
  refine x_icmp_ne C (t := 139) dL_act_119 (by decide) (fun _ => ?_) (fun c9 => absurd c9 (by decide))
  refine x_iload_n C 1 dL_act_139 rfl ?_
  refine x_bipush C (v := 8) dL_act_140 (by decide) ?_
  refine x_icmp_ne C (t := 154) dL_act_142 (by decide) (fun _ => ?_) (fun c9 => absurd c9 (by decide))
  refine x_iload_n C 1 dL_act_154 rfl ?_
  refine x_bipush C (v := 9) dL_act_155 (by decide) ?_
  refine x_icmp_ne C (t := 169) dL_act_157 (by decide) (fun c9 => absurd c9 (by decide)) (fun _ => ?_)
  refine x_aload_n C 0 dL_act_160 rfl ?_
  refine x_iload_n C 2 dL_act_161 rfl ?_
  refine x_iload_n C 3 dL_act_162 rfl ?_
  refine x_catch C T (kk := 0) (x_runVX C T.2.2.1 (As := [.int x2, .int x3]) (rest := []) (c_X5_labelOf_th hfl h) (cw_L_act_X5_labelOf_th C) 32 rfl rfl rfl (Nat.le_of_ble_eq_true rfl) dL_act_163 ⟨Nat.le_refl _, Nat.le_refl _⟩) (tableOf []) ⟨0, 289, 290, 13⟩ (tableOf [(0, 289, 295, 15), (0, 289, 300, 17)]) rfl (fun z hz => nomatch hz) (by decide) (by decide) hk_L_act_13 (fun q => ?_)
  refine x_astore C (lv' := [(0, .ref (ad 32)), (1, .int 9), (2, .int x2), (3, .int x3), (4, .int x4), (5, .int x5), (6, .ref q)]) dL_act_290 (by decide) rfl ?_
  refine x_bipush C (v := (-71)) dL_act_292 (by decide) ?_
  exact x_iret C dL_act_294
set_option maxHeartbeats 4000000 in
set_option maxRecDepth 100000 in
theorem c_L_act_value_th0 {l : Launch} {D : va_G} {cI cZ cJ : ClassId} {ad : Nat → Nat} {S : St} {rest : va_W} {x2 : Int32} {x3 : Int32} {x4 : Int32} {x5 : Int32} (hfl : l.stackTraces = false) (h : X5_value S x2 x3 x4 = some (1, 0)) : ∀ sz, Met l yL_act wsL_act (rm_L_act 1) (PY D (t3 cI cZ cJ) [.ref (ad 32), .int 10, .int x2, .int x3, .int x4, .int x5] (wE cI cZ ad S (eo ad (ad 0) (ad 7) rest)) sz) (QI D (t3 cI cZ cJ) (wE cI cZ ad S (eo ad (ad 0) (ad 7) rest)) (wE cI cZ ad S (eo ad (ad 0) (ad 7) rest)) sz (-71)) 1 6 (va_A (wE cI cZ ad S (eo ad (ad 0) (ad 7) rest)) sz) := by
  refine x_metH hfl (Qc := fun sz => QI D (t3 cI cZ cJ) (wE cI cZ ad S (eo ad (ad 0) (ad 7) rest)) (wE cI cZ ad S (eo ad (ad 0) (ad 7) rest)) sz (-71)) RL rfl (by decide) rfl (Nat.le_of_ble_eq_true rfl) (fun p e s m args below meth c C T => ?_)
  refine x_iload_n C 1 dL_act_0 rfl ?_
  refine x_if_ne C (t := 17) dL_act_1 (by decide) (fun _ => ?_) (fun c9 => absurd c9 (by decide))
  refine x_iload_n C 1 dL_act_17 rfl ?_
  refine x_iconst C (v := 1) dL_act_18 (by decide) ?_
  refine x_icmp_ne C (t := 35) dL_act_19 (by decide) (fun _ => ?_) (fun c9 => absurd c9 (by decide))
  refine x_iload_n C 1 dL_act_35 rfl ?_
  refine x_iconst C (v := 2) dL_act_36 (by decide) ?_
  refine x_icmp_ne C (t := 53) dL_act_37 (by decide) (fun _ => ?_) (fun c9 => absurd c9 (by decide))
  refine x_iload_n C 1 dL_act_53 rfl ?_
  refine x_iconst C (v := 3) dL_act_54 (by decide) ?_
  refine x_icmp_ne C (t := 67) dL_act_55 (by decide) (fun _ => ?_) (fun c9 => absurd c9 (by decide))
  refine x_iload_n C 1 dL_act_67 rfl ?_
  refine x_iconst C (v := 4) dL_act_68 (by decide) ?_
  refine x_icmp_ne C (t := 89) dL_act_69 (by decide) (fun _ => ?_) (fun c9 => absurd c9 (by decide))
  refine x_iload_n C 1 dL_act_89 rfl ?_
  refine x_iconst C (v := 5) dL_act_90 (by decide) ?_
  refine x_icmp_ne C (t := 102) dL_act_91 (by decide) (fun _ => ?_) (fun c9 => absurd c9 (by decide))
  refine x_iload_n C 1 dL_act_102 rfl ?_
  refine x_bipush C (v := 6) dL_act_103 (by decide) ?_
  refine x_icmp_ne C (t := 116) dL_act_105 (by decide) (fun _ => ?_) (fun c9 => absurd c9 (by decide))
  refine x_iload_n C 1 dL_act_116 rfl ?_
  refine x_bipush C (v := 7) dL_act_117 (by decide) ?_
  refine x_icmp_ne C (t := 139) dL_act_119 (by decide) (fun _ => ?_) (fun c9 => absurd c9 (by decide))
  refine x_iload_n C 1 dL_act_139 rfl ?_
  refine x_bipush C (v := 8) dL_act_140 (by decide) ?_
  refine x_icmp_ne C (t := 154) dL_act_142 (by decide) (fun _ => ?_) (fun c9 => absurd c9 (by decide))
  refine x_iload_n C 1 dL_act_154 rfl ?_
  refine x_bipush C (v := 9) dL_act_155 (by decide) ?_
  refine x_icmp_ne C (t := 169) dL_act_157 (by decide) (fun _ => ?_) (fun c9 => absurd c9 (by decide))
  refine x_iload_n C 1 dL_act_169 rfl ?_
  refine x_bipush C (v := 10) dL_act_170 (by decide) ?_
  refine x_icmp_ne C (t := 186) dL_act_172 (by decide) (fun c9 => absurd c9 (by decide)) (fun _ => ?_)
  refine x_aload_n C 0 dL_act_175 rfl ?_
  refine x_iload_n C 2 dL_act_176 rfl ?_
  refine x_iload_n C 3 dL_act_177 rfl ?_
  refine x_iload C 4 dL_act_178 rfl ?_
  refine x_catch C T (kk := 0) (x_runVX C T.2.2.1 (As := [.int x2, .int x3, .int x4]) (rest := []) (c_X5_value_th hfl h) (cw_L_act_X5_value_th C) 32 rfl rfl rfl (Nat.le_of_ble_eq_true rfl) dL_act_180 ⟨Nat.le_refl _, Nat.le_refl _⟩) (tableOf []) ⟨0, 289, 290, 13⟩ (tableOf [(0, 289, 295, 15), (0, 289, 300, 17)]) rfl (fun z hz => nomatch hz) (by decide) (by decide) hk_L_act_13 (fun q => ?_)
  refine x_astore C (lv' := [(0, .ref (ad 32)), (1, .int 10), (2, .int x2), (3, .int x3), (4, .int x4), (5, .int x5), (6, .ref q)]) dL_act_290 (by decide) rfl ?_
  refine x_bipush C (v := (-71)) dL_act_292 (by decide) ?_
  exact x_iret C dL_act_294
set_option maxHeartbeats 4000000 in
set_option maxRecDepth 100000 in
theorem c_L_act_isWhole_th0 {l : Launch} {D : va_G} {cI cZ cJ : ClassId} {ad : Nat → Nat} {S : St} {rest : va_W} {x2 : Int32} {x3 : Int32} {x4 : Int32} {x5 : Int32} (hfl : l.stackTraces = false) (h : X5_isWhole S x2 x3 = some (1, 0)) : ∀ sz, Met l yL_act wsL_act (rm_L_act 1) (PY D (t3 cI cZ cJ) [.ref (ad 32), .int 11, .int x2, .int x3, .int x4, .int x5] (wE cI cZ ad S (eo ad (ad 0) (ad 7) rest)) sz) (QI D (t3 cI cZ cJ) (wE cI cZ ad S (eo ad (ad 0) (ad 7) rest)) (wE cI cZ ad S (eo ad (ad 0) (ad 7) rest)) sz (-71)) 1 6 (va_A (wE cI cZ ad S (eo ad (ad 0) (ad 7) rest)) sz) := by
  refine x_metH hfl (Qc := fun sz => QI D (t3 cI cZ cJ) (wE cI cZ ad S (eo ad (ad 0) (ad 7) rest)) (wE cI cZ ad S (eo ad (ad 0) (ad 7) rest)) sz (-71)) RL rfl (by decide) rfl (Nat.le_of_ble_eq_true rfl) (fun p e s m args below meth c C T => ?_)
  refine x_iload_n C 1 dL_act_0 rfl ?_
  refine x_if_ne C (t := 17) dL_act_1 (by decide) (fun _ => ?_) (fun c9 => absurd c9 (by decide))
  refine x_iload_n C 1 dL_act_17 rfl ?_
  refine x_iconst C (v := 1) dL_act_18 (by decide) ?_
  refine x_icmp_ne C (t := 35) dL_act_19 (by decide) (fun _ => ?_) (fun c9 => absurd c9 (by decide))
  refine x_iload_n C 1 dL_act_35 rfl ?_
  refine x_iconst C (v := 2) dL_act_36 (by decide) ?_
  refine x_icmp_ne C (t := 53) dL_act_37 (by decide) (fun _ => ?_) (fun c9 => absurd c9 (by decide))
  refine x_iload_n C 1 dL_act_53 rfl ?_
  refine x_iconst C (v := 3) dL_act_54 (by decide) ?_
  refine x_icmp_ne C (t := 67) dL_act_55 (by decide) (fun _ => ?_) (fun c9 => absurd c9 (by decide))
  refine x_iload_n C 1 dL_act_67 rfl ?_
  refine x_iconst C (v := 4) dL_act_68 (by decide) ?_
  refine x_icmp_ne C (t := 89) dL_act_69 (by decide) (fun _ => ?_) (fun c9 => absurd c9 (by decide))
  refine x_iload_n C 1 dL_act_89 rfl ?_
  refine x_iconst C (v := 5) dL_act_90 (by decide) ?_
  refine x_icmp_ne C (t := 102) dL_act_91 (by decide) (fun _ => ?_) (fun c9 => absurd c9 (by decide))
  refine x_iload_n C 1 dL_act_102 rfl ?_
  refine x_bipush C (v := 6) dL_act_103 (by decide) ?_
  refine x_icmp_ne C (t := 116) dL_act_105 (by decide) (fun _ => ?_) (fun c9 => absurd c9 (by decide))
  refine x_iload_n C 1 dL_act_116 rfl ?_
  refine x_bipush C (v := 7) dL_act_117 (by decide) ?_
  refine x_icmp_ne C (t := 139) dL_act_119 (by decide) (fun _ => ?_) (fun c9 => absurd c9 (by decide))
  refine x_iload_n C 1 dL_act_139 rfl ?_
  refine x_bipush C (v := 8) dL_act_140 (by decide) ?_
  refine x_icmp_ne C (t := 154) dL_act_142 (by decide) (fun _ => ?_) (fun c9 => absurd c9 (by decide))
  refine x_iload_n C 1 dL_act_154 rfl ?_
  refine x_bipush C (v := 9) dL_act_155 (by decide) ?_
  refine x_icmp_ne C (t := 169) dL_act_157 (by decide) (fun _ => ?_) (fun c9 => absurd c9 (by decide))
  refine x_iload_n C 1 dL_act_169 rfl ?_
  refine x_bipush C (v := 10) dL_act_170 (by decide) ?_
  refine x_icmp_ne C (t := 186) dL_act_172 (by decide) (fun _ => ?_) (fun c9 => absurd c9 (by decide))
  refine x_iload_n C 1 dL_act_186 rfl ?_
  refine x_bipush C (v := 11) dL_act_187 (by decide) ?_
  refine x_icmp_ne C (t := 209) dL_act_189 (by decide) (fun c9 => absurd c9 (by decide)) (fun _ => ?_)
  refine x_aload_n C 0 dL_act_192 rfl ?_
  refine x_iload_n C 2 dL_act_193 rfl ?_
  refine x_iload_n C 3 dL_act_194 rfl ?_
  refine x_catch C T (kk := 0) (x_runVX C T.2.2.1 (As := [.int x2, .int x3]) (rest := []) (c_X5_isWhole_th hfl h) (cw_L_act_X5_isWhole_th C) 32 rfl rfl rfl (Nat.le_of_ble_eq_true rfl) dL_act_195 ⟨Nat.le_refl _, Nat.le_refl _⟩) (tableOf []) ⟨0, 289, 290, 13⟩ (tableOf [(0, 289, 295, 15), (0, 289, 300, 17)]) rfl (fun z hz => nomatch hz) (by decide) (by decide) hk_L_act_13 (fun q => ?_)
  refine x_astore C (lv' := [(0, .ref (ad 32)), (1, .int 11), (2, .int x2), (3, .int x3), (4, .int x4), (5, .int x5), (6, .ref q)]) dL_act_290 (by decide) rfl ?_
  refine x_bipush C (v := (-71)) dL_act_292 (by decide) ?_
  exact x_iret C dL_act_294
set_option maxHeartbeats 4000000 in
set_option maxRecDepth 100000 in
theorem c_L_act_find_th0 {l : Launch} {D : va_G} {cI cZ cJ : ClassId} {ad : Nat → Nat} {S : St} {rest : va_W} {x2 : Int32} {x3 : Int32} {x4 : Int32} {x5 : Int32} (hfl : l.stackTraces = false) (h : X5_find S x2 x3 x4 = some (1, 0)) : ∀ sz, Met l yL_act wsL_act (rm_L_act 1) (PY D (t3 cI cZ cJ) [.ref (ad 32), .int 12, .int x2, .int x3, .int x4, .int x5] (wE cI cZ ad S (eo ad (ad 0) (ad 7) rest)) sz) (QI D (t3 cI cZ cJ) (wE cI cZ ad S (eo ad (ad 0) (ad 7) rest)) (wE cI cZ ad S (eo ad (ad 0) (ad 7) rest)) sz (-71)) 1 6 (va_A (wE cI cZ ad S (eo ad (ad 0) (ad 7) rest)) sz) := by
  refine x_metH hfl (Qc := fun sz => QI D (t3 cI cZ cJ) (wE cI cZ ad S (eo ad (ad 0) (ad 7) rest)) (wE cI cZ ad S (eo ad (ad 0) (ad 7) rest)) sz (-71)) RL rfl (by decide) rfl (Nat.le_of_ble_eq_true rfl) (fun p e s m args below meth c C T => ?_)
  refine x_iload_n C 1 dL_act_0 rfl ?_
  refine x_if_ne C (t := 17) dL_act_1 (by decide) (fun _ => ?_) (fun c9 => absurd c9 (by decide))
  refine x_iload_n C 1 dL_act_17 rfl ?_
  refine x_iconst C (v := 1) dL_act_18 (by decide) ?_
  refine x_icmp_ne C (t := 35) dL_act_19 (by decide) (fun _ => ?_) (fun c9 => absurd c9 (by decide))
  refine x_iload_n C 1 dL_act_35 rfl ?_
  refine x_iconst C (v := 2) dL_act_36 (by decide) ?_
  refine x_icmp_ne C (t := 53) dL_act_37 (by decide) (fun _ => ?_) (fun c9 => absurd c9 (by decide))
  refine x_iload_n C 1 dL_act_53 rfl ?_
  refine x_iconst C (v := 3) dL_act_54 (by decide) ?_
  refine x_icmp_ne C (t := 67) dL_act_55 (by decide) (fun _ => ?_) (fun c9 => absurd c9 (by decide))
  refine x_iload_n C 1 dL_act_67 rfl ?_
  refine x_iconst C (v := 4) dL_act_68 (by decide) ?_
  refine x_icmp_ne C (t := 89) dL_act_69 (by decide) (fun _ => ?_) (fun c9 => absurd c9 (by decide))
  refine x_iload_n C 1 dL_act_89 rfl ?_
  refine x_iconst C (v := 5) dL_act_90 (by decide) ?_
  refine x_icmp_ne C (t := 102) dL_act_91 (by decide) (fun _ => ?_) (fun c9 => absurd c9 (by decide))
  refine x_iload_n C 1 dL_act_102 rfl ?_
  refine x_bipush C (v := 6) dL_act_103 (by decide) ?_
  refine x_icmp_ne C (t := 116) dL_act_105 (by decide) (fun _ => ?_) (fun c9 => absurd c9 (by decide))
  refine x_iload_n C 1 dL_act_116 rfl ?_
  refine x_bipush C (v := 7) dL_act_117 (by decide) ?_
  refine x_icmp_ne C (t := 139) dL_act_119 (by decide) (fun _ => ?_) (fun c9 => absurd c9 (by decide))
  refine x_iload_n C 1 dL_act_139 rfl ?_
  refine x_bipush C (v := 8) dL_act_140 (by decide) ?_
  refine x_icmp_ne C (t := 154) dL_act_142 (by decide) (fun _ => ?_) (fun c9 => absurd c9 (by decide))
  refine x_iload_n C 1 dL_act_154 rfl ?_
  refine x_bipush C (v := 9) dL_act_155 (by decide) ?_
  refine x_icmp_ne C (t := 169) dL_act_157 (by decide) (fun _ => ?_) (fun c9 => absurd c9 (by decide))
  refine x_iload_n C 1 dL_act_169 rfl ?_
  refine x_bipush C (v := 10) dL_act_170 (by decide) ?_
  refine x_icmp_ne C (t := 186) dL_act_172 (by decide) (fun _ => ?_) (fun c9 => absurd c9 (by decide))
  refine x_iload_n C 1 dL_act_186 rfl ?_
  refine x_bipush C (v := 11) dL_act_187 (by decide) ?_
  refine x_icmp_ne C (t := 209) dL_act_189 (by decide) (fun _ => ?_) (fun c9 => absurd c9 (by decide))
  refine x_iload_n C 1 dL_act_209 rfl ?_
  refine x_bipush C (v := 12) dL_act_210 (by decide) ?_
  refine x_icmp_ne C (t := 226) dL_act_212 (by decide) (fun c9 => absurd c9 (by decide)) (fun _ => ?_)
  refine x_aload_n C 0 dL_act_215 rfl ?_
  refine x_iload_n C 2 dL_act_216 rfl ?_
  refine x_iload_n C 3 dL_act_217 rfl ?_
  refine x_iload C 4 dL_act_218 rfl ?_
  refine x_catch C T (kk := 0) (x_runVX C T.2.2.1 (As := [.int x2, .int x3, .int x4]) (rest := []) (c_X5_find_th hfl h) (cw_L_act_X5_find_th C) 32 rfl rfl rfl (Nat.le_of_ble_eq_true rfl) dL_act_220 ⟨Nat.le_refl _, Nat.le_refl _⟩) (tableOf []) ⟨0, 289, 290, 13⟩ (tableOf [(0, 289, 295, 15), (0, 289, 300, 17)]) rfl (fun z hz => nomatch hz) (by decide) (by decide) hk_L_act_13 (fun q => ?_)
  refine x_astore C (lv' := [(0, .ref (ad 32)), (1, .int 12), (2, .int x2), (3, .int x3), (4, .int x4), (5, .int x5), (6, .ref q)]) dL_act_290 (by decide) rfl ?_
  refine x_bipush C (v := (-71)) dL_act_292 (by decide) ?_
  exact x_iret C dL_act_294
set_option maxHeartbeats 4000000 in
set_option maxRecDepth 100000 in
theorem c_L_act_find_th1 {l : Launch} {D : va_G} {cI cZ cJ : ClassId} {ad : Nat → Nat} {S : St} {rest : va_W} {x2 : Int32} {x3 : Int32} {x4 : Int32} {x5 : Int32} (hfl : l.stackTraces = false) (h : X5_find S x2 x3 x4 = some (2, 0)) : ∀ sz, Met l yL_act wsL_act (rm_L_act 1) (PY D (t3 cI cZ cJ) [.ref (ad 32), .int 12, .int x2, .int x3, .int x4, .int x5] (wE cI cZ ad S (eo ad (ad 0) (ad 7) rest)) sz) (QI D (t3 cI cZ cJ) (wE cI cZ ad S (eo ad (ad 0) (ad 7) rest)) (wE cI cZ ad S (eo ad (ad 0) (ad 7) rest)) sz (-72)) 1 6 (va_A (wE cI cZ ad S (eo ad (ad 0) (ad 7) rest)) sz) := by
  refine x_metH hfl (Qc := fun sz => QI D (t3 cI cZ cJ) (wE cI cZ ad S (eo ad (ad 0) (ad 7) rest)) (wE cI cZ ad S (eo ad (ad 0) (ad 7) rest)) sz (-72)) RL rfl (by decide) rfl (Nat.le_of_ble_eq_true rfl) (fun p e s m args below meth c C T => ?_)
  refine x_iload_n C 1 dL_act_0 rfl ?_
  refine x_if_ne C (t := 17) dL_act_1 (by decide) (fun _ => ?_) (fun c9 => absurd c9 (by decide))
  refine x_iload_n C 1 dL_act_17 rfl ?_
  refine x_iconst C (v := 1) dL_act_18 (by decide) ?_
  refine x_icmp_ne C (t := 35) dL_act_19 (by decide) (fun _ => ?_) (fun c9 => absurd c9 (by decide))
  refine x_iload_n C 1 dL_act_35 rfl ?_
  refine x_iconst C (v := 2) dL_act_36 (by decide) ?_
  refine x_icmp_ne C (t := 53) dL_act_37 (by decide) (fun _ => ?_) (fun c9 => absurd c9 (by decide))
  refine x_iload_n C 1 dL_act_53 rfl ?_
  refine x_iconst C (v := 3) dL_act_54 (by decide) ?_
  refine x_icmp_ne C (t := 67) dL_act_55 (by decide) (fun _ => ?_) (fun c9 => absurd c9 (by decide))
  refine x_iload_n C 1 dL_act_67 rfl ?_
  refine x_iconst C (v := 4) dL_act_68 (by decide) ?_
  refine x_icmp_ne C (t := 89) dL_act_69 (by decide) (fun _ => ?_) (fun c9 => absurd c9 (by decide))
  refine x_iload_n C 1 dL_act_89 rfl ?_
  refine x_iconst C (v := 5) dL_act_90 (by decide) ?_
  refine x_icmp_ne C (t := 102) dL_act_91 (by decide) (fun _ => ?_) (fun c9 => absurd c9 (by decide))
  refine x_iload_n C 1 dL_act_102 rfl ?_
  refine x_bipush C (v := 6) dL_act_103 (by decide) ?_
  refine x_icmp_ne C (t := 116) dL_act_105 (by decide) (fun _ => ?_) (fun c9 => absurd c9 (by decide))
  refine x_iload_n C 1 dL_act_116 rfl ?_
  refine x_bipush C (v := 7) dL_act_117 (by decide) ?_
  refine x_icmp_ne C (t := 139) dL_act_119 (by decide) (fun _ => ?_) (fun c9 => absurd c9 (by decide))
  refine x_iload_n C 1 dL_act_139 rfl ?_
  refine x_bipush C (v := 8) dL_act_140 (by decide) ?_
  refine x_icmp_ne C (t := 154) dL_act_142 (by decide) (fun _ => ?_) (fun c9 => absurd c9 (by decide))
  refine x_iload_n C 1 dL_act_154 rfl ?_
  refine x_bipush C (v := 9) dL_act_155 (by decide) ?_
  refine x_icmp_ne C (t := 169) dL_act_157 (by decide) (fun _ => ?_) (fun c9 => absurd c9 (by decide))
  refine x_iload_n C 1 dL_act_169 rfl ?_
  refine x_bipush C (v := 10) dL_act_170 (by decide) ?_
  refine x_icmp_ne C (t := 186) dL_act_172 (by decide) (fun _ => ?_) (fun c9 => absurd c9 (by decide))
  refine x_iload_n C 1 dL_act_186 rfl ?_
  refine x_bipush C (v := 11) dL_act_187 (by decide) ?_
  refine x_icmp_ne C (t := 209) dL_act_189 (by decide) (fun _ => ?_) (fun c9 => absurd c9 (by decide))
  refine x_iload_n C 1 dL_act_209 rfl ?_
  refine x_bipush C (v := 12) dL_act_210 (by decide) ?_
  refine x_icmp_ne C (t := 226) dL_act_212 (by decide) (fun c9 => absurd c9 (by decide)) (fun _ => ?_)
  refine x_aload_n C 0 dL_act_215 rfl ?_
  refine x_iload_n C 2 dL_act_216 rfl ?_
  refine x_iload_n C 3 dL_act_217 rfl ?_
  refine x_iload C 4 dL_act_218 rfl ?_
  refine x_catch C T (kk := 1) (x_runVX C T.2.2.1 (As := [.int x2, .int x3, .int x4]) (rest := []) (c_X5_find_th hfl h) (cw_L_act_X5_find_th C) 32 rfl rfl rfl (Nat.le_of_ble_eq_true rfl) dL_act_220 ⟨Nat.le_refl _, Nat.le_refl _⟩) (tableOf [(0, 289, 290, 13)]) ⟨0, 289, 295, 15⟩ (tableOf [(0, 289, 300, 17)]) rfl (fun z hz => by
    rcases List.mem_cons.mp hz with rfl | hz
    · exact ⟨by decide, _, hk_L_act_13, T.2.2.2 1 0 (by decide) (by decide) (by decide)⟩
    exact nomatch hz) (by decide) (by decide) hk_L_act_15 (fun q => ?_)
  refine x_astore C (lv' := [(0, .ref (ad 32)), (1, .int 12), (2, .int x2), (3, .int x3), (4, .int x4), (5, .int x5), (6, .ref q)]) dL_act_295 (by decide) rfl ?_
  refine x_bipush C (v := (-72)) dL_act_297 (by decide) ?_
  exact x_iret C dL_act_299
set_option maxHeartbeats 4000000 in
set_option maxRecDepth 100000 in
theorem c_L_act_test_ok {l : Launch} {D : va_G} {cI cZ cJ : ClassId} {ad : Nat → Nat} {S : St} {rest : va_W} {x2 : Int32} {x3 : Int32} {x4 : Int32} {x5 : Int32} {v : Int32} {S' : St} (hfl : l.stackTraces = false) (h : X5_test S x2 x3 x4 = some (0, v, S')) : ∀ sz, Met l yL_act wsL_act (rm_L_act 0) (PY D (t3 cI cZ cJ) [.ref (ad 32), .int 13, .int x2, .int x3, .int x4, .int x5] (wE cI cZ ad S (eo ad (ad 0) (ad 7) rest)) sz) (QI D (t3 cI cZ cJ) (wE cI cZ ad S (eo ad (ad 0) (ad 7) rest)) (wE cI cZ ad S' (eo ad (ad 0) (ad 7) rest)) sz v) 0 0 (va_A (wE cI cZ ad S (eo ad (ad 0) (ad 7) rest)) sz) := by
  refine x_metH hfl (Qc := fun sz => QI D (t3 cI cZ cJ) (wE cI cZ ad S (eo ad (ad 0) (ad 7) rest)) (wE cI cZ ad S' (eo ad (ad 0) (ad 7) rest)) sz v) RL rfl (by decide) rfl (Nat.le_of_ble_eq_true rfl) (fun p e s m args below meth c C T => ?_)
  refine x_iload_n C 1 dL_act_0 rfl ?_
  refine x_if_ne C (t := 17) dL_act_1 (by decide) (fun _ => ?_) (fun c9 => absurd c9 (by decide))
  refine x_iload_n C 1 dL_act_17 rfl ?_
  refine x_iconst C (v := 1) dL_act_18 (by decide) ?_
  refine x_icmp_ne C (t := 35) dL_act_19 (by decide) (fun _ => ?_) (fun c9 => absurd c9 (by decide))
  refine x_iload_n C 1 dL_act_35 rfl ?_
  refine x_iconst C (v := 2) dL_act_36 (by decide) ?_
  refine x_icmp_ne C (t := 53) dL_act_37 (by decide) (fun _ => ?_) (fun c9 => absurd c9 (by decide))
  refine x_iload_n C 1 dL_act_53 rfl ?_
  refine x_iconst C (v := 3) dL_act_54 (by decide) ?_
  refine x_icmp_ne C (t := 67) dL_act_55 (by decide) (fun _ => ?_) (fun c9 => absurd c9 (by decide))
  refine x_iload_n C 1 dL_act_67 rfl ?_
  refine x_iconst C (v := 4) dL_act_68 (by decide) ?_
  refine x_icmp_ne C (t := 89) dL_act_69 (by decide) (fun _ => ?_) (fun c9 => absurd c9 (by decide))
  refine x_iload_n C 1 dL_act_89 rfl ?_
  refine x_iconst C (v := 5) dL_act_90 (by decide) ?_
  refine x_icmp_ne C (t := 102) dL_act_91 (by decide) (fun _ => ?_) (fun c9 => absurd c9 (by decide))
  refine x_iload_n C 1 dL_act_102 rfl ?_
  refine x_bipush C (v := 6) dL_act_103 (by decide) ?_
  refine x_icmp_ne C (t := 116) dL_act_105 (by decide) (fun _ => ?_) (fun c9 => absurd c9 (by decide))
  refine x_iload_n C 1 dL_act_116 rfl ?_
  refine x_bipush C (v := 7) dL_act_117 (by decide) ?_
  refine x_icmp_ne C (t := 139) dL_act_119 (by decide) (fun _ => ?_) (fun c9 => absurd c9 (by decide))
  refine x_iload_n C 1 dL_act_139 rfl ?_
  refine x_bipush C (v := 8) dL_act_140 (by decide) ?_
  refine x_icmp_ne C (t := 154) dL_act_142 (by decide) (fun _ => ?_) (fun c9 => absurd c9 (by decide))
  refine x_iload_n C 1 dL_act_154 rfl ?_
  refine x_bipush C (v := 9) dL_act_155 (by decide) ?_
  refine x_icmp_ne C (t := 169) dL_act_157 (by decide) (fun _ => ?_) (fun c9 => absurd c9 (by decide))
  refine x_iload_n C 1 dL_act_169 rfl ?_
  refine x_bipush C (v := 10) dL_act_170 (by decide) ?_
  refine x_icmp_ne C (t := 186) dL_act_172 (by decide) (fun _ => ?_) (fun c9 => absurd c9 (by decide))
  refine x_iload_n C 1 dL_act_186 rfl ?_
  refine x_bipush C (v := 11) dL_act_187 (by decide) ?_
  refine x_icmp_ne C (t := 209) dL_act_189 (by decide) (fun _ => ?_) (fun c9 => absurd c9 (by decide))
  refine x_iload_n C 1 dL_act_209 rfl ?_
  refine x_bipush C (v := 12) dL_act_210 (by decide) ?_
  refine x_icmp_ne C (t := 226) dL_act_212 (by decide) (fun _ => ?_) (fun c9 => absurd c9 (by decide))
  refine x_iload_n C 1 dL_act_226 rfl ?_
  refine x_bipush C (v := 13) dL_act_227 (by decide) ?_
  refine x_icmp_ne C (t := 243) dL_act_229 (by decide) (fun c9 => absurd c9 (by decide)) (fun _ => ?_)
  refine x_aload_n C 0 dL_act_232 rfl ?_
  refine x_iload_n C 2 dL_act_233 rfl ?_
  refine x_iload_n C 3 dL_act_234 rfl ?_
  refine x_iload C 4 dL_act_235 rfl ?_
  refine x_ci0 (x_runV C (As := [.int x2, .int x3, .int x4]) (rest := []) (c_X5_test_ok h) (cw_L_act_X5_test C) 32 rfl rfl rfl (Nat.le_of_ble_eq_true rfl) dL_act_237 ⟨Nat.zero_le _, Nat.zero_le _⟩) ?_
  refine x_goto C (t := 289) dL_act_240 (by decide) ?_
  exact x_iret C dL_act_289
set_option maxHeartbeats 4000000 in
set_option maxRecDepth 100000 in
theorem c_L_act_test_th1 {l : Launch} {D : va_G} {cI cZ cJ : ClassId} {ad : Nat → Nat} {S : St} {rest : va_W} {x2 : Int32} {x3 : Int32} {x4 : Int32} {x5 : Int32} (hfl : l.stackTraces = false) (h : X5_test S x2 x3 x4 = some (2, 0, S)) : ∀ sz, Met l yL_act wsL_act (rm_L_act 1) (PY D (t3 cI cZ cJ) [.ref (ad 32), .int 13, .int x2, .int x3, .int x4, .int x5] (wE cI cZ ad S (eo ad (ad 0) (ad 7) rest)) sz) (QI D (t3 cI cZ cJ) (wE cI cZ ad S (eo ad (ad 0) (ad 7) rest)) (wE cI cZ ad S (eo ad (ad 0) (ad 7) rest)) sz (-72)) 1 6 (va_A (wE cI cZ ad S (eo ad (ad 0) (ad 7) rest)) sz) := by
  refine x_metH hfl (Qc := fun sz => QI D (t3 cI cZ cJ) (wE cI cZ ad S (eo ad (ad 0) (ad 7) rest)) (wE cI cZ ad S (eo ad (ad 0) (ad 7) rest)) sz (-72)) RL rfl (by decide) rfl (Nat.le_of_ble_eq_true rfl) (fun p e s m args below meth c C T => ?_)
  refine x_iload_n C 1 dL_act_0 rfl ?_
  refine x_if_ne C (t := 17) dL_act_1 (by decide) (fun _ => ?_) (fun c9 => absurd c9 (by decide))
  refine x_iload_n C 1 dL_act_17 rfl ?_
  refine x_iconst C (v := 1) dL_act_18 (by decide) ?_
  refine x_icmp_ne C (t := 35) dL_act_19 (by decide) (fun _ => ?_) (fun c9 => absurd c9 (by decide))
  refine x_iload_n C 1 dL_act_35 rfl ?_
  refine x_iconst C (v := 2) dL_act_36 (by decide) ?_
  refine x_icmp_ne C (t := 53) dL_act_37 (by decide) (fun _ => ?_) (fun c9 => absurd c9 (by decide))
  refine x_iload_n C 1 dL_act_53 rfl ?_
  refine x_iconst C (v := 3) dL_act_54 (by decide) ?_
  refine x_icmp_ne C (t := 67) dL_act_55 (by decide) (fun _ => ?_) (fun c9 => absurd c9 (by decide))
  refine x_iload_n C 1 dL_act_67 rfl ?_
  refine x_iconst C (v := 4) dL_act_68 (by decide) ?_
  refine x_icmp_ne C (t := 89) dL_act_69 (by decide) (fun _ => ?_) (fun c9 => absurd c9 (by decide))
  refine x_iload_n C 1 dL_act_89 rfl ?_
  refine x_iconst C (v := 5) dL_act_90 (by decide) ?_
  refine x_icmp_ne C (t := 102) dL_act_91 (by decide) (fun _ => ?_) (fun c9 => absurd c9 (by decide))
  refine x_iload_n C 1 dL_act_102 rfl ?_
  refine x_bipush C (v := 6) dL_act_103 (by decide) ?_
  refine x_icmp_ne C (t := 116) dL_act_105 (by decide) (fun _ => ?_) (fun c9 => absurd c9 (by decide))
  refine x_iload_n C 1 dL_act_116 rfl ?_
  refine x_bipush C (v := 7) dL_act_117 (by decide) ?_
  refine x_icmp_ne C (t := 139) dL_act_119 (by decide) (fun _ => ?_) (fun c9 => absurd c9 (by decide))
  refine x_iload_n C 1 dL_act_139 rfl ?_
  refine x_bipush C (v := 8) dL_act_140 (by decide) ?_
  refine x_icmp_ne C (t := 154) dL_act_142 (by decide) (fun _ => ?_) (fun c9 => absurd c9 (by decide))
  refine x_iload_n C 1 dL_act_154 rfl ?_
  refine x_bipush C (v := 9) dL_act_155 (by decide) ?_
  refine x_icmp_ne C (t := 169) dL_act_157 (by decide) (fun _ => ?_) (fun c9 => absurd c9 (by decide))
  refine x_iload_n C 1 dL_act_169 rfl ?_
  refine x_bipush C (v := 10) dL_act_170 (by decide) ?_
  refine x_icmp_ne C (t := 186) dL_act_172 (by decide) (fun _ => ?_) (fun c9 => absurd c9 (by decide))
  refine x_iload_n C 1 dL_act_186 rfl ?_
  refine x_bipush C (v := 11) dL_act_187 (by decide) ?_
  refine x_icmp_ne C (t := 209) dL_act_189 (by decide) (fun _ => ?_) (fun c9 => absurd c9 (by decide))
  refine x_iload_n C 1 dL_act_209 rfl ?_
  refine x_bipush C (v := 12) dL_act_210 (by decide) ?_
  refine x_icmp_ne C (t := 226) dL_act_212 (by decide) (fun _ => ?_) (fun c9 => absurd c9 (by decide))
  refine x_iload_n C 1 dL_act_226 rfl ?_
  refine x_bipush C (v := 13) dL_act_227 (by decide) ?_
  refine x_icmp_ne C (t := 243) dL_act_229 (by decide) (fun c9 => absurd c9 (by decide)) (fun _ => ?_)
  refine x_aload_n C 0 dL_act_232 rfl ?_
  refine x_iload_n C 2 dL_act_233 rfl ?_
  refine x_iload_n C 3 dL_act_234 rfl ?_
  refine x_iload C 4 dL_act_235 rfl ?_
  refine x_catch C T (kk := 1) (x_runVX C T.2.2.1 (As := [.int x2, .int x3, .int x4]) (rest := []) (c_X5_test_th hfl h) (cw_L_act_X5_test_th C) 32 rfl rfl rfl (Nat.le_of_ble_eq_true rfl) dL_act_237 ⟨Nat.le_refl _, Nat.le_refl _⟩) (tableOf [(0, 289, 290, 13)]) ⟨0, 289, 295, 15⟩ (tableOf [(0, 289, 300, 17)]) rfl (fun z hz => by
    rcases List.mem_cons.mp hz with rfl | hz
    · exact ⟨by decide, _, hk_L_act_13, T.2.2.2 1 0 (by decide) (by decide) (by decide)⟩
    exact nomatch hz) (by decide) (by decide) hk_L_act_15 (fun q => ?_)
  refine x_astore C (lv' := [(0, .ref (ad 32)), (1, .int 13), (2, .int x2), (3, .int x3), (4, .int x4), (5, .int x5), (6, .ref q)]) dL_act_295 (by decide) rfl ?_
  refine x_bipush C (v := (-72)) dL_act_297 (by decide) ?_
  exact x_iret C dL_act_299
set_option maxHeartbeats 4000000 in
set_option maxRecDepth 100000 in
theorem c_L_act_test_th2 {l : Launch} {D : va_G} {cI cZ cJ : ClassId} {ad : Nat → Nat} {S : St} {rest : va_W} {x2 : Int32} {x3 : Int32} {x4 : Int32} {x5 : Int32} (hfl : l.stackTraces = false) (h : X5_test S x2 x3 x4 = some (3, 0, S)) : ∀ sz, Met l yL_act wsL_act (rm_L_act 1) (PY D (t3 cI cZ cJ) [.ref (ad 32), .int 13, .int x2, .int x3, .int x4, .int x5] (wE cI cZ ad S (eo ad (ad 0) (ad 7) rest)) sz) (QI D (t3 cI cZ cJ) (wE cI cZ ad S (eo ad (ad 0) (ad 7) rest)) (wE cI cZ ad S (eo ad (ad 0) (ad 7) rest)) sz (-73)) 1 6 (va_A (wE cI cZ ad S (eo ad (ad 0) (ad 7) rest)) sz) := by
  refine x_metH hfl (Qc := fun sz => QI D (t3 cI cZ cJ) (wE cI cZ ad S (eo ad (ad 0) (ad 7) rest)) (wE cI cZ ad S (eo ad (ad 0) (ad 7) rest)) sz (-73)) RL rfl (by decide) rfl (Nat.le_of_ble_eq_true rfl) (fun p e s m args below meth c C T => ?_)
  refine x_iload_n C 1 dL_act_0 rfl ?_
  refine x_if_ne C (t := 17) dL_act_1 (by decide) (fun _ => ?_) (fun c9 => absurd c9 (by decide))
  refine x_iload_n C 1 dL_act_17 rfl ?_
  refine x_iconst C (v := 1) dL_act_18 (by decide) ?_
  refine x_icmp_ne C (t := 35) dL_act_19 (by decide) (fun _ => ?_) (fun c9 => absurd c9 (by decide))
  refine x_iload_n C 1 dL_act_35 rfl ?_
  refine x_iconst C (v := 2) dL_act_36 (by decide) ?_
  refine x_icmp_ne C (t := 53) dL_act_37 (by decide) (fun _ => ?_) (fun c9 => absurd c9 (by decide))
  refine x_iload_n C 1 dL_act_53 rfl ?_
  refine x_iconst C (v := 3) dL_act_54 (by decide) ?_
  refine x_icmp_ne C (t := 67) dL_act_55 (by decide) (fun _ => ?_) (fun c9 => absurd c9 (by decide))
  refine x_iload_n C 1 dL_act_67 rfl ?_
  refine x_iconst C (v := 4) dL_act_68 (by decide) ?_
  refine x_icmp_ne C (t := 89) dL_act_69 (by decide) (fun _ => ?_) (fun c9 => absurd c9 (by decide))
  refine x_iload_n C 1 dL_act_89 rfl ?_
  refine x_iconst C (v := 5) dL_act_90 (by decide) ?_
  refine x_icmp_ne C (t := 102) dL_act_91 (by decide) (fun _ => ?_) (fun c9 => absurd c9 (by decide))
  refine x_iload_n C 1 dL_act_102 rfl ?_
  refine x_bipush C (v := 6) dL_act_103 (by decide) ?_
  refine x_icmp_ne C (t := 116) dL_act_105 (by decide) (fun _ => ?_) (fun c9 => absurd c9 (by decide))
  refine x_iload_n C 1 dL_act_116 rfl ?_
  refine x_bipush C (v := 7) dL_act_117 (by decide) ?_
  refine x_icmp_ne C (t := 139) dL_act_119 (by decide) (fun _ => ?_) (fun c9 => absurd c9 (by decide))
  refine x_iload_n C 1 dL_act_139 rfl ?_
  refine x_bipush C (v := 8) dL_act_140 (by decide) ?_
  refine x_icmp_ne C (t := 154) dL_act_142 (by decide) (fun _ => ?_) (fun c9 => absurd c9 (by decide))
  refine x_iload_n C 1 dL_act_154 rfl ?_
  refine x_bipush C (v := 9) dL_act_155 (by decide) ?_
  refine x_icmp_ne C (t := 169) dL_act_157 (by decide) (fun _ => ?_) (fun c9 => absurd c9 (by decide))
  refine x_iload_n C 1 dL_act_169 rfl ?_
  refine x_bipush C (v := 10) dL_act_170 (by decide) ?_
  refine x_icmp_ne C (t := 186) dL_act_172 (by decide) (fun _ => ?_) (fun c9 => absurd c9 (by decide))
  refine x_iload_n C 1 dL_act_186 rfl ?_
  refine x_bipush C (v := 11) dL_act_187 (by decide) ?_
  refine x_icmp_ne C (t := 209) dL_act_189 (by decide) (fun _ => ?_) (fun c9 => absurd c9 (by decide))
  refine x_iload_n C 1 dL_act_209 rfl ?_
  refine x_bipush C (v := 12) dL_act_210 (by decide) ?_
  refine x_icmp_ne C (t := 226) dL_act_212 (by decide) (fun _ => ?_) (fun c9 => absurd c9 (by decide))
  refine x_iload_n C 1 dL_act_226 rfl ?_
  refine x_bipush C (v := 13) dL_act_227 (by decide) ?_
  refine x_icmp_ne C (t := 243) dL_act_229 (by decide) (fun c9 => absurd c9 (by decide)) (fun _ => ?_)
  refine x_aload_n C 0 dL_act_232 rfl ?_
  refine x_iload_n C 2 dL_act_233 rfl ?_
  refine x_iload_n C 3 dL_act_234 rfl ?_
  refine x_iload C 4 dL_act_235 rfl ?_
  refine x_catch C T (kk := 2) (x_runVX C T.2.2.1 (As := [.int x2, .int x3, .int x4]) (rest := []) (c_X5_test_th hfl h) (cw_L_act_X5_test_th C) 32 rfl rfl rfl (Nat.le_of_ble_eq_true rfl) dL_act_237 ⟨Nat.le_refl _, Nat.le_refl _⟩) (tableOf [(0, 289, 290, 13), (0, 289, 295, 15)]) ⟨0, 289, 300, 17⟩ (tableOf []) rfl (fun z hz => by
    rcases List.mem_cons.mp hz with rfl | hz
    · exact ⟨by decide, _, hk_L_act_13, T.2.2.2 2 0 (by decide) (by decide) (by decide)⟩
    rcases List.mem_cons.mp hz with rfl | hz
    · exact ⟨by decide, _, hk_L_act_15, T.2.2.2 2 1 (by decide) (by decide) (by decide)⟩
    exact nomatch hz) (by decide) (by decide) hk_L_act_17 (fun q => ?_)
  refine x_astore C (lv' := [(0, .ref (ad 32)), (1, .int 13), (2, .int x2), (3, .int x3), (4, .int x4), (5, .int x5), (6, .ref q)]) dL_act_300 (by decide) rfl ?_
  refine x_bipush C (v := (-73)) dL_act_302 (by decide) ?_
  exact x_iret C dL_act_304
set_option maxHeartbeats 4000000 in
set_option maxRecDepth 100000 in
theorem c_L_act_join_ok {l : Launch} {D : va_G} {cI cZ cJ : ClassId} {ad : Nat → Nat} {S : St} {rest : va_W} {x2 : Int32} {x3 : Int32} {x4 : Int32} {x5 : Int32} {v : Int32} {S' : St} (hfl : l.stackTraces = false) (h : X5_join S x2 x3 x4 = some (0, v, S')) : ∀ sz, Met l yL_act wsL_act (rm_L_act 0) (PY D (t3 cI cZ cJ) [.ref (ad 32), .int 14, .int x2, .int x3, .int x4, .int x5] (wE cI cZ ad S (eo ad (ad 0) (ad 7) rest)) sz) (QI D (t3 cI cZ cJ) (wE cI cZ ad S (eo ad (ad 0) (ad 7) rest)) (wE cI cZ ad S' (eo ad (ad 0) (ad 7) rest)) sz v) 0 0 (va_A (wE cI cZ ad S (eo ad (ad 0) (ad 7) rest)) sz) := by
  refine x_metH hfl (Qc := fun sz => QI D (t3 cI cZ cJ) (wE cI cZ ad S (eo ad (ad 0) (ad 7) rest)) (wE cI cZ ad S' (eo ad (ad 0) (ad 7) rest)) sz v) RL rfl (by decide) rfl (Nat.le_of_ble_eq_true rfl) (fun p e s m args below meth c C T => ?_)
  refine x_iload_n C 1 dL_act_0 rfl ?_
  refine x_if_ne C (t := 17) dL_act_1 (by decide) (fun _ => ?_) (fun c9 => absurd c9 (by decide))
  refine x_iload_n C 1 dL_act_17 rfl ?_
  refine x_iconst C (v := 1) dL_act_18 (by decide) ?_
  refine x_icmp_ne C (t := 35) dL_act_19 (by decide) (fun _ => ?_) (fun c9 => absurd c9 (by decide))
  refine x_iload_n C 1 dL_act_35 rfl ?_
  refine x_iconst C (v := 2) dL_act_36 (by decide) ?_
  refine x_icmp_ne C (t := 53) dL_act_37 (by decide) (fun _ => ?_) (fun c9 => absurd c9 (by decide))
  refine x_iload_n C 1 dL_act_53 rfl ?_
  refine x_iconst C (v := 3) dL_act_54 (by decide) ?_
  refine x_icmp_ne C (t := 67) dL_act_55 (by decide) (fun _ => ?_) (fun c9 => absurd c9 (by decide))
  refine x_iload_n C 1 dL_act_67 rfl ?_
  refine x_iconst C (v := 4) dL_act_68 (by decide) ?_
  refine x_icmp_ne C (t := 89) dL_act_69 (by decide) (fun _ => ?_) (fun c9 => absurd c9 (by decide))
  refine x_iload_n C 1 dL_act_89 rfl ?_
  refine x_iconst C (v := 5) dL_act_90 (by decide) ?_
  refine x_icmp_ne C (t := 102) dL_act_91 (by decide) (fun _ => ?_) (fun c9 => absurd c9 (by decide))
  refine x_iload_n C 1 dL_act_102 rfl ?_
  refine x_bipush C (v := 6) dL_act_103 (by decide) ?_
  refine x_icmp_ne C (t := 116) dL_act_105 (by decide) (fun _ => ?_) (fun c9 => absurd c9 (by decide))
  refine x_iload_n C 1 dL_act_116 rfl ?_
  refine x_bipush C (v := 7) dL_act_117 (by decide) ?_
  refine x_icmp_ne C (t := 139) dL_act_119 (by decide) (fun _ => ?_) (fun c9 => absurd c9 (by decide))
  refine x_iload_n C 1 dL_act_139 rfl ?_
  refine x_bipush C (v := 8) dL_act_140 (by decide) ?_
  refine x_icmp_ne C (t := 154) dL_act_142 (by decide) (fun _ => ?_) (fun c9 => absurd c9 (by decide))
  refine x_iload_n C 1 dL_act_154 rfl ?_
  refine x_bipush C (v := 9) dL_act_155 (by decide) ?_
  refine x_icmp_ne C (t := 169) dL_act_157 (by decide) (fun _ => ?_) (fun c9 => absurd c9 (by decide))
  refine x_iload_n C 1 dL_act_169 rfl ?_
  refine x_bipush C (v := 10) dL_act_170 (by decide) ?_
  refine x_icmp_ne C (t := 186) dL_act_172 (by decide) (fun _ => ?_) (fun c9 => absurd c9 (by decide))
  refine x_iload_n C 1 dL_act_186 rfl ?_
  refine x_bipush C (v := 11) dL_act_187 (by decide) ?_
  refine x_icmp_ne C (t := 209) dL_act_189 (by decide) (fun _ => ?_) (fun c9 => absurd c9 (by decide))
  refine x_iload_n C 1 dL_act_209 rfl ?_
  refine x_bipush C (v := 12) dL_act_210 (by decide) ?_
  refine x_icmp_ne C (t := 226) dL_act_212 (by decide) (fun _ => ?_) (fun c9 => absurd c9 (by decide))
  refine x_iload_n C 1 dL_act_226 rfl ?_
  refine x_bipush C (v := 13) dL_act_227 (by decide) ?_
  refine x_icmp_ne C (t := 243) dL_act_229 (by decide) (fun _ => ?_) (fun c9 => absurd c9 (by decide))
  refine x_iload_n C 1 dL_act_243 rfl ?_
  refine x_bipush C (v := 14) dL_act_244 (by decide) ?_
  refine x_icmp_ne C (t := 260) dL_act_246 (by decide) (fun c9 => absurd c9 (by decide)) (fun _ => ?_)
  refine x_aload_n C 0 dL_act_249 rfl ?_
  refine x_iload_n C 2 dL_act_250 rfl ?_
  refine x_iload_n C 3 dL_act_251 rfl ?_
  refine x_iload C 4 dL_act_252 rfl ?_
  refine x_ci0 (x_runV C (As := [.int x2, .int x3, .int x4]) (rest := []) (c_X5_join_ok h) (cw_L_act_X5_join C) 32 rfl rfl rfl (Nat.le_of_ble_eq_true rfl) dL_act_254 ⟨Nat.zero_le _, Nat.zero_le _⟩) ?_
  refine x_goto C (t := 289) dL_act_257 (by decide) ?_
  exact x_iret C dL_act_289
set_option maxHeartbeats 4000000 in
set_option maxRecDepth 100000 in
theorem c_L_act_join_th0 {l : Launch} {D : va_G} {cI cZ cJ : ClassId} {ad : Nat → Nat} {S : St} {rest : va_W} {x2 : Int32} {x3 : Int32} {x4 : Int32} {x5 : Int32} (hfl : l.stackTraces = false) (h : X5_join S x2 x3 x4 = some (1, 0, S)) : ∀ sz, Met l yL_act wsL_act (rm_L_act 1) (PY D (t3 cI cZ cJ) [.ref (ad 32), .int 14, .int x2, .int x3, .int x4, .int x5] (wE cI cZ ad S (eo ad (ad 0) (ad 7) rest)) sz) (QI D (t3 cI cZ cJ) (wE cI cZ ad S (eo ad (ad 0) (ad 7) rest)) (wE cI cZ ad S (eo ad (ad 0) (ad 7) rest)) sz (-71)) 1 6 (va_A (wE cI cZ ad S (eo ad (ad 0) (ad 7) rest)) sz) := by
  refine x_metH hfl (Qc := fun sz => QI D (t3 cI cZ cJ) (wE cI cZ ad S (eo ad (ad 0) (ad 7) rest)) (wE cI cZ ad S (eo ad (ad 0) (ad 7) rest)) sz (-71)) RL rfl (by decide) rfl (Nat.le_of_ble_eq_true rfl) (fun p e s m args below meth c C T => ?_)
  refine x_iload_n C 1 dL_act_0 rfl ?_
  refine x_if_ne C (t := 17) dL_act_1 (by decide) (fun _ => ?_) (fun c9 => absurd c9 (by decide))
  refine x_iload_n C 1 dL_act_17 rfl ?_
  refine x_iconst C (v := 1) dL_act_18 (by decide) ?_
  refine x_icmp_ne C (t := 35) dL_act_19 (by decide) (fun _ => ?_) (fun c9 => absurd c9 (by decide))
  refine x_iload_n C 1 dL_act_35 rfl ?_
  refine x_iconst C (v := 2) dL_act_36 (by decide) ?_
  refine x_icmp_ne C (t := 53) dL_act_37 (by decide) (fun _ => ?_) (fun c9 => absurd c9 (by decide))
  refine x_iload_n C 1 dL_act_53 rfl ?_
  refine x_iconst C (v := 3) dL_act_54 (by decide) ?_
  refine x_icmp_ne C (t := 67) dL_act_55 (by decide) (fun _ => ?_) (fun c9 => absurd c9 (by decide))
  refine x_iload_n C 1 dL_act_67 rfl ?_
  refine x_iconst C (v := 4) dL_act_68 (by decide) ?_
  refine x_icmp_ne C (t := 89) dL_act_69 (by decide) (fun _ => ?_) (fun c9 => absurd c9 (by decide))
  refine x_iload_n C 1 dL_act_89 rfl ?_
  refine x_iconst C (v := 5) dL_act_90 (by decide) ?_
  refine x_icmp_ne C (t := 102) dL_act_91 (by decide) (fun _ => ?_) (fun c9 => absurd c9 (by decide))
  refine x_iload_n C 1 dL_act_102 rfl ?_
  refine x_bipush C (v := 6) dL_act_103 (by decide) ?_
  refine x_icmp_ne C (t := 116) dL_act_105 (by decide) (fun _ => ?_) (fun c9 => absurd c9 (by decide))
  refine x_iload_n C 1 dL_act_116 rfl ?_
  refine x_bipush C (v := 7) dL_act_117 (by decide) ?_
  refine x_icmp_ne C (t := 139) dL_act_119 (by decide) (fun _ => ?_) (fun c9 => absurd c9 (by decide))
  refine x_iload_n C 1 dL_act_139 rfl ?_
  refine x_bipush C (v := 8) dL_act_140 (by decide) ?_
  refine x_icmp_ne C (t := 154) dL_act_142 (by decide) (fun _ => ?_) (fun c9 => absurd c9 (by decide))
  refine x_iload_n C 1 dL_act_154 rfl ?_
  refine x_bipush C (v := 9) dL_act_155 (by decide) ?_
  refine x_icmp_ne C (t := 169) dL_act_157 (by decide) (fun _ => ?_) (fun c9 => absurd c9 (by decide))
  refine x_iload_n C 1 dL_act_169 rfl ?_
  refine x_bipush C (v := 10) dL_act_170 (by decide) ?_
  refine x_icmp_ne C (t := 186) dL_act_172 (by decide) (fun _ => ?_) (fun c9 => absurd c9 (by decide))
  refine x_iload_n C 1 dL_act_186 rfl ?_
  refine x_bipush C (v := 11) dL_act_187 (by decide) ?_
  refine x_icmp_ne C (t := 209) dL_act_189 (by decide) (fun _ => ?_) (fun c9 => absurd c9 (by decide))
  refine x_iload_n C 1 dL_act_209 rfl ?_
  refine x_bipush C (v := 12) dL_act_210 (by decide) ?_
  refine x_icmp_ne C (t := 226) dL_act_212 (by decide) (fun _ => ?_) (fun c9 => absurd c9 (by decide))
  refine x_iload_n C 1 dL_act_226 rfl ?_
  refine x_bipush C (v := 13) dL_act_227 (by decide) ?_
  refine x_icmp_ne C (t := 243) dL_act_229 (by decide) (fun _ => ?_) (fun c9 => absurd c9 (by decide))
  refine x_iload_n C 1 dL_act_243 rfl ?_
  refine x_bipush C (v := 14) dL_act_244 (by decide) ?_
  refine x_icmp_ne C (t := 260) dL_act_246 (by decide) (fun c9 => absurd c9 (by decide)) (fun _ => ?_)
  refine x_aload_n C 0 dL_act_249 rfl ?_
  refine x_iload_n C 2 dL_act_250 rfl ?_
  refine x_iload_n C 3 dL_act_251 rfl ?_
  refine x_iload C 4 dL_act_252 rfl ?_
  refine x_catch C T (kk := 0) (x_runVX C T.2.2.1 (As := [.int x2, .int x3, .int x4]) (rest := []) (c_X5_join_th hfl h) (cw_L_act_X5_join_th C) 32 rfl rfl rfl (Nat.le_of_ble_eq_true rfl) dL_act_254 ⟨Nat.le_refl _, Nat.le_refl _⟩) (tableOf []) ⟨0, 289, 290, 13⟩ (tableOf [(0, 289, 295, 15), (0, 289, 300, 17)]) rfl (fun z hz => nomatch hz) (by decide) (by decide) hk_L_act_13 (fun q => ?_)
  refine x_astore C (lv' := [(0, .ref (ad 32)), (1, .int 14), (2, .int x2), (3, .int x3), (4, .int x4), (5, .int x5), (6, .ref q)]) dL_act_290 (by decide) rfl ?_
  refine x_bipush C (v := (-71)) dL_act_292 (by decide) ?_
  exact x_iret C dL_act_294
set_option maxHeartbeats 4000000 in
set_option maxRecDepth 100000 in
theorem c_L_act_join_th1 {l : Launch} {D : va_G} {cI cZ cJ : ClassId} {ad : Nat → Nat} {S : St} {rest : va_W} {x2 : Int32} {x3 : Int32} {x4 : Int32} {x5 : Int32} (hfl : l.stackTraces = false) (h : X5_join S x2 x3 x4 = some (2, 0, S)) : ∀ sz, Met l yL_act wsL_act (rm_L_act 1) (PY D (t3 cI cZ cJ) [.ref (ad 32), .int 14, .int x2, .int x3, .int x4, .int x5] (wE cI cZ ad S (eo ad (ad 0) (ad 7) rest)) sz) (QI D (t3 cI cZ cJ) (wE cI cZ ad S (eo ad (ad 0) (ad 7) rest)) (wE cI cZ ad S (eo ad (ad 0) (ad 7) rest)) sz (-72)) 1 6 (va_A (wE cI cZ ad S (eo ad (ad 0) (ad 7) rest)) sz) := by
  refine x_metH hfl (Qc := fun sz => QI D (t3 cI cZ cJ) (wE cI cZ ad S (eo ad (ad 0) (ad 7) rest)) (wE cI cZ ad S (eo ad (ad 0) (ad 7) rest)) sz (-72)) RL rfl (by decide) rfl (Nat.le_of_ble_eq_true rfl) (fun p e s m args below meth c C T => ?_)
  refine x_iload_n C 1 dL_act_0 rfl ?_
  refine x_if_ne C (t := 17) dL_act_1 (by decide) (fun _ => ?_) (fun c9 => absurd c9 (by decide))
  refine x_iload_n C 1 dL_act_17 rfl ?_
  refine x_iconst C (v := 1) dL_act_18 (by decide) ?_
  refine x_icmp_ne C (t := 35) dL_act_19 (by decide) (fun _ => ?_) (fun c9 => absurd c9 (by decide))
  refine x_iload_n C 1 dL_act_35 rfl ?_
  refine x_iconst C (v := 2) dL_act_36 (by decide) ?_
  refine x_icmp_ne C (t := 53) dL_act_37 (by decide) (fun _ => ?_) (fun c9 => absurd c9 (by decide))
  refine x_iload_n C 1 dL_act_53 rfl ?_
  refine x_iconst C (v := 3) dL_act_54 (by decide) ?_
  refine x_icmp_ne C (t := 67) dL_act_55 (by decide) (fun _ => ?_) (fun c9 => absurd c9 (by decide))
  refine x_iload_n C 1 dL_act_67 rfl ?_
  refine x_iconst C (v := 4) dL_act_68 (by decide) ?_
  refine x_icmp_ne C (t := 89) dL_act_69 (by decide) (fun _ => ?_) (fun c9 => absurd c9 (by decide))
  refine x_iload_n C 1 dL_act_89 rfl ?_
  refine x_iconst C (v := 5) dL_act_90 (by decide) ?_
  refine x_icmp_ne C (t := 102) dL_act_91 (by decide) (fun _ => ?_) (fun c9 => absurd c9 (by decide))
  refine x_iload_n C 1 dL_act_102 rfl ?_
  refine x_bipush C (v := 6) dL_act_103 (by decide) ?_
  refine x_icmp_ne C (t := 116) dL_act_105 (by decide) (fun _ => ?_) (fun c9 => absurd c9 (by decide))
  refine x_iload_n C 1 dL_act_116 rfl ?_
  refine x_bipush C (v := 7) dL_act_117 (by decide) ?_
  refine x_icmp_ne C (t := 139) dL_act_119 (by decide) (fun _ => ?_) (fun c9 => absurd c9 (by decide))
  refine x_iload_n C 1 dL_act_139 rfl ?_
  refine x_bipush C (v := 8) dL_act_140 (by decide) ?_
  refine x_icmp_ne C (t := 154) dL_act_142 (by decide) (fun _ => ?_) (fun c9 => absurd c9 (by decide))
  refine x_iload_n C 1 dL_act_154 rfl ?_
  refine x_bipush C (v := 9) dL_act_155 (by decide) ?_
  refine x_icmp_ne C (t := 169) dL_act_157 (by decide) (fun _ => ?_) (fun c9 => absurd c9 (by decide))
  refine x_iload_n C 1 dL_act_169 rfl ?_
  refine x_bipush C (v := 10) dL_act_170 (by decide) ?_
  refine x_icmp_ne C (t := 186) dL_act_172 (by decide) (fun _ => ?_) (fun c9 => absurd c9 (by decide))
  refine x_iload_n C 1 dL_act_186 rfl ?_
  refine x_bipush C (v := 11) dL_act_187 (by decide) ?_
  refine x_icmp_ne C (t := 209) dL_act_189 (by decide) (fun _ => ?_) (fun c9 => absurd c9 (by decide))
  refine x_iload_n C 1 dL_act_209 rfl ?_
  refine x_bipush C (v := 12) dL_act_210 (by decide) ?_
  refine x_icmp_ne C (t := 226) dL_act_212 (by decide) (fun _ => ?_) (fun c9 => absurd c9 (by decide))
  refine x_iload_n C 1 dL_act_226 rfl ?_
  refine x_bipush C (v := 13) dL_act_227 (by decide) ?_
  refine x_icmp_ne C (t := 243) dL_act_229 (by decide) (fun _ => ?_) (fun c9 => absurd c9 (by decide))
  refine x_iload_n C 1 dL_act_243 rfl ?_
  refine x_bipush C (v := 14) dL_act_244 (by decide) ?_
  refine x_icmp_ne C (t := 260) dL_act_246 (by decide) (fun c9 => absurd c9 (by decide)) (fun _ => ?_)
  refine x_aload_n C 0 dL_act_249 rfl ?_
  refine x_iload_n C 2 dL_act_250 rfl ?_
  refine x_iload_n C 3 dL_act_251 rfl ?_
  refine x_iload C 4 dL_act_252 rfl ?_
  refine x_catch C T (kk := 1) (x_runVX C T.2.2.1 (As := [.int x2, .int x3, .int x4]) (rest := []) (c_X5_join_th hfl h) (cw_L_act_X5_join_th C) 32 rfl rfl rfl (Nat.le_of_ble_eq_true rfl) dL_act_254 ⟨Nat.le_refl _, Nat.le_refl _⟩) (tableOf [(0, 289, 290, 13)]) ⟨0, 289, 295, 15⟩ (tableOf [(0, 289, 300, 17)]) rfl (fun z hz => by
    rcases List.mem_cons.mp hz with rfl | hz
    · exact ⟨by decide, _, hk_L_act_13, T.2.2.2 1 0 (by decide) (by decide) (by decide)⟩
    exact nomatch hz) (by decide) (by decide) hk_L_act_15 (fun q => ?_)
  refine x_astore C (lv' := [(0, .ref (ad 32)), (1, .int 14), (2, .int x2), (3, .int x3), (4, .int x4), (5, .int x5), (6, .ref q)]) dL_act_295 (by decide) rfl ?_
  refine x_bipush C (v := (-72)) dL_act_297 (by decide) ?_
  exact x_iret C dL_act_299
set_option maxHeartbeats 4000000 in
set_option maxRecDepth 100000 in
theorem c_L_act_join_th2 {l : Launch} {D : va_G} {cI cZ cJ : ClassId} {ad : Nat → Nat} {S : St} {rest : va_W} {x2 : Int32} {x3 : Int32} {x4 : Int32} {x5 : Int32} (hfl : l.stackTraces = false) (h : X5_join S x2 x3 x4 = some (3, 0, S)) : ∀ sz, Met l yL_act wsL_act (rm_L_act 1) (PY D (t3 cI cZ cJ) [.ref (ad 32), .int 14, .int x2, .int x3, .int x4, .int x5] (wE cI cZ ad S (eo ad (ad 0) (ad 7) rest)) sz) (QI D (t3 cI cZ cJ) (wE cI cZ ad S (eo ad (ad 0) (ad 7) rest)) (wE cI cZ ad S (eo ad (ad 0) (ad 7) rest)) sz (-73)) 1 6 (va_A (wE cI cZ ad S (eo ad (ad 0) (ad 7) rest)) sz) := by
  refine x_metH hfl (Qc := fun sz => QI D (t3 cI cZ cJ) (wE cI cZ ad S (eo ad (ad 0) (ad 7) rest)) (wE cI cZ ad S (eo ad (ad 0) (ad 7) rest)) sz (-73)) RL rfl (by decide) rfl (Nat.le_of_ble_eq_true rfl) (fun p e s m args below meth c C T => ?_)
  refine x_iload_n C 1 dL_act_0 rfl ?_
  refine x_if_ne C (t := 17) dL_act_1 (by decide) (fun _ => ?_) (fun c9 => absurd c9 (by decide))
  refine x_iload_n C 1 dL_act_17 rfl ?_
  refine x_iconst C (v := 1) dL_act_18 (by decide) ?_
  refine x_icmp_ne C (t := 35) dL_act_19 (by decide) (fun _ => ?_) (fun c9 => absurd c9 (by decide))
  refine x_iload_n C 1 dL_act_35 rfl ?_
  refine x_iconst C (v := 2) dL_act_36 (by decide) ?_
  refine x_icmp_ne C (t := 53) dL_act_37 (by decide) (fun _ => ?_) (fun c9 => absurd c9 (by decide))
  refine x_iload_n C 1 dL_act_53 rfl ?_
  refine x_iconst C (v := 3) dL_act_54 (by decide) ?_
  refine x_icmp_ne C (t := 67) dL_act_55 (by decide) (fun _ => ?_) (fun c9 => absurd c9 (by decide))
  refine x_iload_n C 1 dL_act_67 rfl ?_
  refine x_iconst C (v := 4) dL_act_68 (by decide) ?_
  refine x_icmp_ne C (t := 89) dL_act_69 (by decide) (fun _ => ?_) (fun c9 => absurd c9 (by decide))
  refine x_iload_n C 1 dL_act_89 rfl ?_
  refine x_iconst C (v := 5) dL_act_90 (by decide) ?_
  refine x_icmp_ne C (t := 102) dL_act_91 (by decide) (fun _ => ?_) (fun c9 => absurd c9 (by decide))
  refine x_iload_n C 1 dL_act_102 rfl ?_
  refine x_bipush C (v := 6) dL_act_103 (by decide) ?_
  refine x_icmp_ne C (t := 116) dL_act_105 (by decide) (fun _ => ?_) (fun c9 => absurd c9 (by decide))
  refine x_iload_n C 1 dL_act_116 rfl ?_
  refine x_bipush C (v := 7) dL_act_117 (by decide) ?_
  refine x_icmp_ne C (t := 139) dL_act_119 (by decide) (fun _ => ?_) (fun c9 => absurd c9 (by decide))
  refine x_iload_n C 1 dL_act_139 rfl ?_
  refine x_bipush C (v := 8) dL_act_140 (by decide) ?_
  refine x_icmp_ne C (t := 154) dL_act_142 (by decide) (fun _ => ?_) (fun c9 => absurd c9 (by decide))
  refine x_iload_n C 1 dL_act_154 rfl ?_
  refine x_bipush C (v := 9) dL_act_155 (by decide) ?_
  refine x_icmp_ne C (t := 169) dL_act_157 (by decide) (fun _ => ?_) (fun c9 => absurd c9 (by decide))
  refine x_iload_n C 1 dL_act_169 rfl ?_
  refine x_bipush C (v := 10) dL_act_170 (by decide) ?_
  refine x_icmp_ne C (t := 186) dL_act_172 (by decide) (fun _ => ?_) (fun c9 => absurd c9 (by decide))
  refine x_iload_n C 1 dL_act_186 rfl ?_
  refine x_bipush C (v := 11) dL_act_187 (by decide) ?_
  refine x_icmp_ne C (t := 209) dL_act_189 (by decide) (fun _ => ?_) (fun c9 => absurd c9 (by decide))
  refine x_iload_n C 1 dL_act_209 rfl ?_
  refine x_bipush C (v := 12) dL_act_210 (by decide) ?_
  refine x_icmp_ne C (t := 226) dL_act_212 (by decide) (fun _ => ?_) (fun c9 => absurd c9 (by decide))
  refine x_iload_n C 1 dL_act_226 rfl ?_
  refine x_bipush C (v := 13) dL_act_227 (by decide) ?_
  refine x_icmp_ne C (t := 243) dL_act_229 (by decide) (fun _ => ?_) (fun c9 => absurd c9 (by decide))
  refine x_iload_n C 1 dL_act_243 rfl ?_
  refine x_bipush C (v := 14) dL_act_244 (by decide) ?_
  refine x_icmp_ne C (t := 260) dL_act_246 (by decide) (fun c9 => absurd c9 (by decide)) (fun _ => ?_)
  refine x_aload_n C 0 dL_act_249 rfl ?_
  refine x_iload_n C 2 dL_act_250 rfl ?_
  refine x_iload_n C 3 dL_act_251 rfl ?_
  refine x_iload C 4 dL_act_252 rfl ?_
  refine x_catch C T (kk := 2) (x_runVX C T.2.2.1 (As := [.int x2, .int x3, .int x4]) (rest := []) (c_X5_join_th hfl h) (cw_L_act_X5_join_th C) 32 rfl rfl rfl (Nat.le_of_ble_eq_true rfl) dL_act_254 ⟨Nat.le_refl _, Nat.le_refl _⟩) (tableOf [(0, 289, 290, 13), (0, 289, 295, 15)]) ⟨0, 289, 300, 17⟩ (tableOf []) rfl (fun z hz => by
    rcases List.mem_cons.mp hz with rfl | hz
    · exact ⟨by decide, _, hk_L_act_13, T.2.2.2 2 0 (by decide) (by decide) (by decide)⟩
    rcases List.mem_cons.mp hz with rfl | hz
    · exact ⟨by decide, _, hk_L_act_15, T.2.2.2 2 1 (by decide) (by decide) (by decide)⟩
    exact nomatch hz) (by decide) (by decide) hk_L_act_17 (fun q => ?_)
  refine x_astore C (lv' := [(0, .ref (ad 32)), (1, .int 14), (2, .int x2), (3, .int x3), (4, .int x4), (5, .int x5), (6, .ref q)]) dL_act_300 (by decide) rfl ?_
  refine x_bipush C (v := (-73)) dL_act_302 (by decide) ?_
  exact x_iret C dL_act_304
set_option maxHeartbeats 4000000 in
set_option maxRecDepth 100000 in
theorem c_L_act_holds_th0 {l : Launch} {D : va_G} {cI cZ cJ : ClassId} {ad : Nat → Nat} {S : St} {rest : va_W} {x2 : Int32} {x3 : Int32} {x4 : Int32} {x5 : Int32} (hfl : l.stackTraces = false) (h : X5_holds S x2 x3 x4 = some (1, 0, S)) : ∀ sz, Met l yL_act wsL_act (rm_L_act 1) (PY D (t3 cI cZ cJ) [.ref (ad 32), .int 15, .int x2, .int x3, .int x4, .int x5] (wE cI cZ ad S (eo ad (ad 0) (ad 7) rest)) sz) (QI D (t3 cI cZ cJ) (wE cI cZ ad S (eo ad (ad 0) (ad 7) rest)) (wE cI cZ ad S (eo ad (ad 0) (ad 7) rest)) sz (-71)) 1 6 (va_A (wE cI cZ ad S (eo ad (ad 0) (ad 7) rest)) sz) := by
  refine x_metH hfl (Qc := fun sz => QI D (t3 cI cZ cJ) (wE cI cZ ad S (eo ad (ad 0) (ad 7) rest)) (wE cI cZ ad S (eo ad (ad 0) (ad 7) rest)) sz (-71)) RL rfl (by decide) rfl (Nat.le_of_ble_eq_true rfl) (fun p e s m args below meth c C T => ?_)
  refine x_iload_n C 1 dL_act_0 rfl ?_
  refine x_if_ne C (t := 17) dL_act_1 (by decide) (fun _ => ?_) (fun c9 => absurd c9 (by decide))
  refine x_iload_n C 1 dL_act_17 rfl ?_
  refine x_iconst C (v := 1) dL_act_18 (by decide) ?_
  refine x_icmp_ne C (t := 35) dL_act_19 (by decide) (fun _ => ?_) (fun c9 => absurd c9 (by decide))
  refine x_iload_n C 1 dL_act_35 rfl ?_
  refine x_iconst C (v := 2) dL_act_36 (by decide) ?_
  refine x_icmp_ne C (t := 53) dL_act_37 (by decide) (fun _ => ?_) (fun c9 => absurd c9 (by decide))
  refine x_iload_n C 1 dL_act_53 rfl ?_
  refine x_iconst C (v := 3) dL_act_54 (by decide) ?_
  refine x_icmp_ne C (t := 67) dL_act_55 (by decide) (fun _ => ?_) (fun c9 => absurd c9 (by decide))
  refine x_iload_n C 1 dL_act_67 rfl ?_
  refine x_iconst C (v := 4) dL_act_68 (by decide) ?_
  refine x_icmp_ne C (t := 89) dL_act_69 (by decide) (fun _ => ?_) (fun c9 => absurd c9 (by decide))
  refine x_iload_n C 1 dL_act_89 rfl ?_
  refine x_iconst C (v := 5) dL_act_90 (by decide) ?_
  refine x_icmp_ne C (t := 102) dL_act_91 (by decide) (fun _ => ?_) (fun c9 => absurd c9 (by decide))
  refine x_iload_n C 1 dL_act_102 rfl ?_
  refine x_bipush C (v := 6) dL_act_103 (by decide) ?_
  refine x_icmp_ne C (t := 116) dL_act_105 (by decide) (fun _ => ?_) (fun c9 => absurd c9 (by decide))
  refine x_iload_n C 1 dL_act_116 rfl ?_
  refine x_bipush C (v := 7) dL_act_117 (by decide) ?_
  refine x_icmp_ne C (t := 139) dL_act_119 (by decide) (fun _ => ?_) (fun c9 => absurd c9 (by decide))
  refine x_iload_n C 1 dL_act_139 rfl ?_
  refine x_bipush C (v := 8) dL_act_140 (by decide) ?_
  refine x_icmp_ne C (t := 154) dL_act_142 (by decide) (fun _ => ?_) (fun c9 => absurd c9 (by decide))
  refine x_iload_n C 1 dL_act_154 rfl ?_
  refine x_bipush C (v := 9) dL_act_155 (by decide) ?_
  refine x_icmp_ne C (t := 169) dL_act_157 (by decide) (fun _ => ?_) (fun c9 => absurd c9 (by decide))
  refine x_iload_n C 1 dL_act_169 rfl ?_
  refine x_bipush C (v := 10) dL_act_170 (by decide) ?_
  refine x_icmp_ne C (t := 186) dL_act_172 (by decide) (fun _ => ?_) (fun c9 => absurd c9 (by decide))
  refine x_iload_n C 1 dL_act_186 rfl ?_
  refine x_bipush C (v := 11) dL_act_187 (by decide) ?_
  refine x_icmp_ne C (t := 209) dL_act_189 (by decide) (fun _ => ?_) (fun c9 => absurd c9 (by decide))
  refine x_iload_n C 1 dL_act_209 rfl ?_
  refine x_bipush C (v := 12) dL_act_210 (by decide) ?_
  refine x_icmp_ne C (t := 226) dL_act_212 (by decide) (fun _ => ?_) (fun c9 => absurd c9 (by decide))
  refine x_iload_n C 1 dL_act_226 rfl ?_
  refine x_bipush C (v := 13) dL_act_227 (by decide) ?_
  refine x_icmp_ne C (t := 243) dL_act_229 (by decide) (fun _ => ?_) (fun c9 => absurd c9 (by decide))
  refine x_iload_n C 1 dL_act_243 rfl ?_
  refine x_bipush C (v := 14) dL_act_244 (by decide) ?_
  refine x_icmp_ne C (t := 260) dL_act_246 (by decide) (fun _ => ?_) (fun c9 => absurd c9 (by decide))
  refine x_iload_n C 1 dL_act_260 rfl ?_
  refine x_bipush C (v := 15) dL_act_261 (by decide) ?_
  refine x_icmp_ne C (t := 277) dL_act_263 (by decide) (fun c9 => absurd c9 (by decide)) (fun _ => ?_)
  refine x_aload_n C 0 dL_act_266 rfl ?_
  refine x_iload_n C 2 dL_act_267 rfl ?_
  refine x_iload_n C 3 dL_act_268 rfl ?_
  refine x_iload C 4 dL_act_269 rfl ?_
  refine x_catch C T (kk := 0) (x_runVX C T.2.2.1 (As := [.int x2, .int x3, .int x4]) (rest := []) (c_X5_holds_th hfl h) (cw_L_act_X5_holds_th C) 32 rfl rfl rfl (Nat.le_of_ble_eq_true rfl) dL_act_271 ⟨Nat.le_refl _, Nat.le_refl _⟩) (tableOf []) ⟨0, 289, 290, 13⟩ (tableOf [(0, 289, 295, 15), (0, 289, 300, 17)]) rfl (fun z hz => nomatch hz) (by decide) (by decide) hk_L_act_13 (fun q => ?_)
  refine x_astore C (lv' := [(0, .ref (ad 32)), (1, .int 15), (2, .int x2), (3, .int x3), (4, .int x4), (5, .int x5), (6, .ref q)]) dL_act_290 (by decide) rfl ?_
  refine x_bipush C (v := (-71)) dL_act_292 (by decide) ?_
  exact x_iret C dL_act_294
/-! the law's at -/
abbrev rm_L_at : Room := { frames := 9, cells := 0, slots := 0, locals := 147 }
theorem cw_L_at_X5_isThere {p : Program} {s : State} {m : MethodId} {args : Array Value} {meth : Method} {c : Code} {D : va_G} {tys : List (ClassId × FieldType)} {R : Room} (C : XC p R s m args meth c cL_at 5 (some .boolean) RL wsL_at D tys) : CallW (rm_L_at) s args RL RX5 51 yX5_isThere cX5_isThere 3 (some .boolean) wsX5_isThere (rm_X5_isThere 0) 0 0 2 := cwV 2 C.2.2.2.2.1 gL_at_X5_isThere rfl rfl rfl (by decide +kernel) ⟨Nat.le_of_ble_eq_true rfl, Nat.le_of_ble_eq_true rfl⟩
theorem cw_L_at_X5_parentOf {p : Program} {s : State} {m : MethodId} {args : Array Value} {meth : Method} {c : Code} {D : va_G} {tys : List (ClassId × FieldType)} {R : Room} (C : XC p R s m args meth c cL_at 5 (some .boolean) RL wsL_at D tys) : CallW (rm_L_at) s args RL RX5 54 yX5_parentOf cX5_parentOf 4 (some .int) wsX5_parentOf (rm_X5_parentOf 0) 0 0 2 := cwV 2 C.2.2.2.2.1 gL_at_X5_parentOf rfl rfl rfl (by decide +kernel) ⟨Nat.le_of_ble_eq_true rfl, Nat.le_of_ble_eq_true rfl⟩
theorem cw_L_at_X5_labelOf {p : Program} {s : State} {m : MethodId} {args : Array Value} {meth : Method} {c : Code} {D : va_G} {tys : List (ClassId × FieldType)} {R : Room} (C : XC p R s m args meth c cL_at 5 (some .boolean) RL wsL_at D tys) : CallW (rm_L_at) s args RL RX5 57 yX5_labelOf cX5_labelOf 4 (some .int) wsX5_labelOf (rm_X5_labelOf 0) 0 0 2 := cwV 2 C.2.2.2.2.1 gL_at_X5_labelOf rfl rfl rfl (by decide +kernel) ⟨Nat.le_of_ble_eq_true rfl, Nat.le_of_ble_eq_true rfl⟩
set_option maxHeartbeats 4000000 in
set_option maxRecDepth 100000 in
theorem c_L_at {l : Launch} {D : va_G} {cI cZ cJ : ClassId} {ad : Nat → Nat} {S : St} {rest : va_W} {x1 x2 x3 x4 : Int32} (h0 : X5_isThere S x1 x2 = some (0, 1)) (h1 : X5_parentOf S x1 x2 = some (0, x3)) (h2 : X5_labelOf S x1 x2 = some (0, x4)) : ∀ sz, Met l yL_at wsL_at rm_L_at (PC D (t3 cI cZ cJ) [.ref (ad 32), .int x1, .int x2, .int x3, .int x4] (wE cI cZ ad S (eo ad (ad 0) (ad 7) rest)) sz) (QI D (t3 cI cZ cJ) (wE cI cZ ad S (eo ad (ad 0) (ad 7) rest)) (wE cI cZ ad S (eo ad (ad 0) (ad 7) rest)) sz 1) 0 0 (va_A (wE cI cZ ad S (eo ad (ad 0) (ad 7) rest)) sz) := by
  refine x_met (Qc := fun sz => QI D (t3 cI cZ cJ) (wE cI cZ ad S (eo ad (ad 0) (ad 7) rest)) (wE cI cZ ad S (eo ad (ad 0) (ad 7) rest)) sz 1) RL rfl (by decide) rfl (Nat.le_of_ble_eq_true rfl) (fun p e s m args below meth c C => ?_)
  refine x_aload_n C 0 dL_at_0 rfl ?_
  refine x_iload_n C 1 dL_at_1 rfl ?_
  refine x_iload_n C 2 dL_at_2 rfl ?_
  refine x_ci0 (x_runV C (As := [.int x1, .int x2]) (rest := []) (c_X5_isThere_ok h0) (cw_L_at_X5_isThere C) 32 rfl rfl rfl (Nat.le_of_ble_eq_true rfl) dL_at_3 ⟨by show _ ≤ 0; omega, by show _ ≤ 0; omega⟩) ?_
  refine x_if_eq C (t := 34) dL_at_6 (by decide) (fun c9 => absurd c9 (by decide)) (fun _ => ?_)
  refine x_aload_n C 0 dL_at_9 rfl ?_
  refine x_iload_n C 1 dL_at_10 rfl ?_
  refine x_iload_n C 2 dL_at_11 rfl ?_
  refine x_ci0 (x_runV C (As := [.int x1, .int x2]) (rest := []) (c_X5_parentOf_ok h1) (cw_L_at_X5_parentOf C) 32 rfl rfl rfl (Nat.le_of_ble_eq_true rfl) dL_at_12 ⟨by show _ ≤ 0; omega, by show _ ≤ 0; omega⟩) ?_
  refine x_iload_n C 3 dL_at_15 rfl ?_
  refine x_icmp_ne C (t := 34) dL_at_16 (by decide) (fun c9 => absurd rfl c9) (fun _ => ?_)
  refine x_aload_n C 0 dL_at_19 rfl ?_
  refine x_iload_n C 1 dL_at_20 rfl ?_
  refine x_iload_n C 2 dL_at_21 rfl ?_
  refine x_ci0 (x_runV C (As := [.int x1, .int x2]) (rest := []) (c_X5_labelOf_ok h2) (cw_L_at_X5_labelOf C) 32 rfl rfl rfl (Nat.le_of_ble_eq_true rfl) dL_at_22 ⟨by show _ ≤ 0; omega, by show _ ≤ 0; omega⟩) ?_
  refine x_iload C 4 dL_at_25 rfl ?_
  refine x_icmp_ne C (t := 34) dL_at_27 (by decide) (fun c9 => absurd rfl c9) (fun _ => ?_)
  refine x_iconst C (v := 1) dL_at_30 (by decide) ?_
  refine x_goto C (t := 35) dL_at_31 (by decide) ?_
  exact x_zret C (v := 1) (by decide) dL_at_35
/-! the law's finds -/
abbrev rm_L_finds : Room := { frames := 9, cells := 0, slots := 0, locals := 171 }
theorem cw_L_finds_X5_search {p : Program} {s : State} {m : MethodId} {args : Array Value} {meth : Method} {c : Code} {D : va_G} {tys : List (ClassId × FieldType)} {R : Room} (C : XC p R s m args meth c cL_finds 10 (some .boolean) RL wsL_finds D tys) : CallW (rm_L_finds) s args RL RX5 79 yX5_search cX5_search 11 (some .int) wsX5_search (rm_X5_search 0) 0 0 6 := cwV 6 C.2.2.2.2.1 gL_finds_X5_search rfl rfl rfl (by decide +kernel) ⟨Nat.le_of_ble_eq_true rfl, Nat.le_of_ble_eq_true rfl⟩
set_option maxHeartbeats 4000000 in
set_option maxRecDepth 100000 in
theorem c_L_finds_0 {l : Launch} {D : va_G} {cI cZ cJ : ClassId} {ad : Nat → Nat} {S0 S1 : St} {rest : va_W} {x1 x2 x3 x4 a0 a1 a2 a3 : Int32}  (g0 : ¬ 0 ≤ a0) (h0 : X5_search S0 0 x1 x2 x3 x4 0 = some (0, -1, S1)) : ∀ sz, Met l yL_finds wsL_finds rm_L_finds (PC D (t3 cI cZ cJ) [.ref (ad 32), .int x1, .int x2, .int x3, .int x4, .int a0, .int a1, .int a2, .int a3] (wE cI cZ ad S0 (eo ad (ad 0) (ad 7) rest)) sz) (QI D (t3 cI cZ cJ) (wE cI cZ ad S0 (eo ad (ad 0) (ad 7) rest)) (wE cI cZ ad S1 (eo ad (ad 0) (ad 7) rest)) sz 1) 0 0 (va_A (wE cI cZ ad S0 (eo ad (ad 0) (ad 7) rest)) sz) := by
  refine x_met (Qc := fun sz => QI D (t3 cI cZ cJ) (wE cI cZ ad S0 (eo ad (ad 0) (ad 7) rest)) (wE cI cZ ad S1 (eo ad (ad 0) (ad 7) rest)) sz 1) RL rfl (by decide) rfl (Nat.le_of_ble_eq_true rfl) (fun p e s m args below meth c C => ?_)
  refine x_iload C 5 dL_finds_0 rfl ?_
  refine x_if_ge C (t := 9) dL_finds_2 (by decide) (fun c9 => absurd c9 g0) (fun _ => ?_)
  refine x_iconst C (v := 0) dL_finds_5 (by decide) ?_
  refine x_goto C (t := 37) dL_finds_6 (by decide) ?_
  refine x_istore C (lv' := [(0, .ref (ad 32)), (1, .int x1), (2, .int x2), (3, .int x3), (4, .int x4), (5, .int a0), (6, .int a1), (7, .int a2), (8, .int a3), (9, .int 0)]) dL_finds_37 (by decide) rfl ?_
  refine x_iload C 9 dL_finds_39 rfl ?_
  refine x_iconst C (v := 1) dL_finds_41 (by decide) ?_
  refine x_icmp_lt C (t := 61) dL_finds_42 (by decide) (fun _ => ?_) (fun c9 => absurd c9 (by decide))
  refine x_iload C 9 dL_finds_61 rfl ?_
  refine x_iconst C (v := 2) dL_finds_63 (by decide) ?_
  refine x_icmp_lt C (t := 83) dL_finds_64 (by decide) (fun _ => ?_) (fun c9 => absurd c9 (by decide))
  refine x_iload C 9 dL_finds_83 rfl ?_
  refine x_iconst C (v := 3) dL_finds_85 (by decide) ?_
  refine x_icmp_lt C (t := 105) dL_finds_86 (by decide) (fun _ => ?_) (fun c9 => absurd c9 (by decide))
  refine x_iload C 9 dL_finds_105 rfl ?_
  refine x_iconst C (v := 4) dL_finds_107 (by decide) ?_
  refine x_icmp_lt C (t := 127) dL_finds_108 (by decide) (fun _ => ?_) (fun c9 => absurd c9 (by decide))
  refine x_aload_n C 0 dL_finds_127 rfl ?_
  refine x_iconst C (v := 0) dL_finds_128 (by decide) ?_
  refine x_iload_n C 1 dL_finds_129 rfl ?_
  refine x_iload_n C 2 dL_finds_130 rfl ?_
  refine x_iload_n C 3 dL_finds_131 rfl ?_
  refine x_iload C 4 dL_finds_132 rfl ?_
  refine x_iload C 9 dL_finds_134 rfl ?_
  refine x_ci0 (x_runV C (As := [.int 0, .int x1, .int x2, .int x3, .int x4, .int 0]) (rest := []) (c_X5_search_ok h0) (cw_L_finds_X5_search C) 32 rfl rfl rfl (Nat.le_of_ble_eq_true rfl) dL_finds_136 ⟨by show _ ≤ 0; omega, by show _ ≤ 0; omega⟩) ?_
  refine x_iconst C (v := (-1)) dL_finds_139 (by decide) ?_
  refine x_icmp_ne C (t := 147) dL_finds_140 (by decide) (fun c9 => absurd c9 (by decide)) (fun _ => ?_)
  refine x_iconst C (v := 1) dL_finds_143 (by decide) ?_
  refine x_goto C (t := 148) dL_finds_144 (by decide) ?_
  exact x_zret C (v := 1) (by decide) dL_finds_148
set_option maxHeartbeats 4000000 in
set_option maxRecDepth 100000 in
theorem c_L_finds_1 {l : Launch} {D : va_G} {cI cZ cJ : ClassId} {ad : Nat → Nat} {S0 S1 S2 : St} {rest : va_W} {x1 x2 x3 x4 a0 a1 a2 a3 : Int32} (g0 : 0 ≤ a0) (g1 : ¬ 0 ≤ a1) (h0 : X5_search S0 0 x1 x2 x3 x4 0 = some (0, a0, S1)) (h1 : X5_search S1 0 x1 x2 x3 x4 1 = some (0, -1, S2)) : ∀ sz, Met l yL_finds wsL_finds rm_L_finds (PC D (t3 cI cZ cJ) [.ref (ad 32), .int x1, .int x2, .int x3, .int x4, .int a0, .int a1, .int a2, .int a3] (wE cI cZ ad S0 (eo ad (ad 0) (ad 7) rest)) sz) (QI D (t3 cI cZ cJ) (wE cI cZ ad S0 (eo ad (ad 0) (ad 7) rest)) (wE cI cZ ad S2 (eo ad (ad 0) (ad 7) rest)) sz 1) 0 0 (va_A (wE cI cZ ad S0 (eo ad (ad 0) (ad 7) rest)) sz) := by
  refine x_met (Qc := fun sz => QI D (t3 cI cZ cJ) (wE cI cZ ad S0 (eo ad (ad 0) (ad 7) rest)) (wE cI cZ ad S2 (eo ad (ad 0) (ad 7) rest)) sz 1) RL rfl (by decide) rfl (Nat.le_of_ble_eq_true rfl) (fun p e s m args below meth c C => ?_)
  refine x_iload C 5 dL_finds_0 rfl ?_
  refine x_if_ge C (t := 9) dL_finds_2 (by decide) (fun _ => ?_) (fun c9 => absurd g0 c9)
  refine x_iload C 6 dL_finds_9 rfl ?_
  refine x_if_ge C (t := 18) dL_finds_11 (by decide) (fun c9 => absurd c9 g1) (fun _ => ?_)
  refine x_iconst C (v := 1) dL_finds_14 (by decide) ?_
  refine x_goto C (t := 37) dL_finds_15 (by decide) ?_
  refine x_istore C (lv' := [(0, .ref (ad 32)), (1, .int x1), (2, .int x2), (3, .int x3), (4, .int x4), (5, .int a0), (6, .int a1), (7, .int a2), (8, .int a3), (9, .int 1)]) dL_finds_37 (by decide) rfl ?_
  refine x_iload C 9 dL_finds_39 rfl ?_
  refine x_iconst C (v := 1) dL_finds_41 (by decide) ?_
  refine x_icmp_lt C (t := 61) dL_finds_42 (by decide) (fun c9 => absurd c9 (by decide)) (fun _ => ?_)
  refine x_aload_n C 0 dL_finds_45 rfl ?_
  refine x_iconst C (v := 0) dL_finds_46 (by decide) ?_
  refine x_iload_n C 1 dL_finds_47 rfl ?_
  refine x_iload_n C 2 dL_finds_48 rfl ?_
  refine x_iload_n C 3 dL_finds_49 rfl ?_
  refine x_iload C 4 dL_finds_50 rfl ?_
  refine x_iconst C (v := 0) dL_finds_52 (by decide) ?_
  refine x_ci0 (x_runV C (As := [.int 0, .int x1, .int x2, .int x3, .int x4, .int 0]) (rest := []) (c_X5_search_ok h0) (cw_L_finds_X5_search C) 32 rfl rfl rfl (Nat.le_of_ble_eq_true rfl) dL_finds_53 ⟨by show _ ≤ 0; omega, by show _ ≤ 0; omega⟩) ?_
  refine x_iload C 5 dL_finds_56 rfl ?_
  refine x_icmp_ne C (t := 147) dL_finds_58 (by decide) (fun c9 => absurd rfl c9) (fun _ => ?_)
  refine x_iload C 9 dL_finds_61 rfl ?_
  refine x_iconst C (v := 2) dL_finds_63 (by decide) ?_
  refine x_icmp_lt C (t := 83) dL_finds_64 (by decide) (fun _ => ?_) (fun c9 => absurd c9 (by decide))
  refine x_iload C 9 dL_finds_83 rfl ?_
  refine x_iconst C (v := 3) dL_finds_85 (by decide) ?_
  refine x_icmp_lt C (t := 105) dL_finds_86 (by decide) (fun _ => ?_) (fun c9 => absurd c9 (by decide))
  refine x_iload C 9 dL_finds_105 rfl ?_
  refine x_iconst C (v := 4) dL_finds_107 (by decide) ?_
  refine x_icmp_lt C (t := 127) dL_finds_108 (by decide) (fun _ => ?_) (fun c9 => absurd c9 (by decide))
  refine x_aload_n C 0 dL_finds_127 rfl ?_
  refine x_iconst C (v := 0) dL_finds_128 (by decide) ?_
  refine x_iload_n C 1 dL_finds_129 rfl ?_
  refine x_iload_n C 2 dL_finds_130 rfl ?_
  refine x_iload_n C 3 dL_finds_131 rfl ?_
  refine x_iload C 4 dL_finds_132 rfl ?_
  refine x_iload C 9 dL_finds_134 rfl ?_
  refine x_ci0 (x_runV C (As := [.int 0, .int x1, .int x2, .int x3, .int x4, .int 1]) (rest := []) (c_X5_search_ok h1) (cw_L_finds_X5_search C) 32 rfl rfl rfl (Nat.le_of_ble_eq_true rfl) dL_finds_136 ⟨by show _ ≤ 0; omega, by show _ ≤ 0; omega⟩) ?_
  refine x_iconst C (v := (-1)) dL_finds_139 (by decide) ?_
  refine x_icmp_ne C (t := 147) dL_finds_140 (by decide) (fun c9 => absurd c9 (by decide)) (fun _ => ?_)
  refine x_iconst C (v := 1) dL_finds_143 (by decide) ?_
  refine x_goto C (t := 148) dL_finds_144 (by decide) ?_
  exact x_zret C (v := 1) (by decide) dL_finds_148
set_option maxHeartbeats 4000000 in
set_option maxRecDepth 100000 in
theorem c_L_finds_2 {l : Launch} {D : va_G} {cI cZ cJ : ClassId} {ad : Nat → Nat} {S0 S1 S2 S3 : St} {rest : va_W} {x1 x2 x3 x4 a0 a1 a2 a3 : Int32} (g0 : 0 ≤ a0) (g1 : 0 ≤ a1) (g2 : ¬ 0 ≤ a2) (h0 : X5_search S0 0 x1 x2 x3 x4 0 = some (0, a0, S1)) (h1 : X5_search S1 0 x1 x2 x3 x4 1 = some (0, a1, S2)) (h2 : X5_search S2 0 x1 x2 x3 x4 2 = some (0, -1, S3)) : ∀ sz, Met l yL_finds wsL_finds rm_L_finds (PC D (t3 cI cZ cJ) [.ref (ad 32), .int x1, .int x2, .int x3, .int x4, .int a0, .int a1, .int a2, .int a3] (wE cI cZ ad S0 (eo ad (ad 0) (ad 7) rest)) sz) (QI D (t3 cI cZ cJ) (wE cI cZ ad S0 (eo ad (ad 0) (ad 7) rest)) (wE cI cZ ad S3 (eo ad (ad 0) (ad 7) rest)) sz 1) 0 0 (va_A (wE cI cZ ad S0 (eo ad (ad 0) (ad 7) rest)) sz) := by
  refine x_met (Qc := fun sz => QI D (t3 cI cZ cJ) (wE cI cZ ad S0 (eo ad (ad 0) (ad 7) rest)) (wE cI cZ ad S3 (eo ad (ad 0) (ad 7) rest)) sz 1) RL rfl (by decide) rfl (Nat.le_of_ble_eq_true rfl) (fun p e s m args below meth c C => ?_)
  refine x_iload C 5 dL_finds_0 rfl ?_
  refine x_if_ge C (t := 9) dL_finds_2 (by decide) (fun _ => ?_) (fun c9 => absurd g0 c9)
  refine x_iload C 6 dL_finds_9 rfl ?_
  refine x_if_ge C (t := 18) dL_finds_11 (by decide) (fun _ => ?_) (fun c9 => absurd g1 c9)
  refine x_iload C 7 dL_finds_18 rfl ?_
  refine x_if_ge C (t := 27) dL_finds_20 (by decide) (fun c9 => absurd c9 g2) (fun _ => ?_)
  refine x_iconst C (v := 2) dL_finds_23 (by decide) ?_
  refine x_goto C (t := 37) dL_finds_24 (by decide) ?_
  refine x_istore C (lv' := [(0, .ref (ad 32)), (1, .int x1), (2, .int x2), (3, .int x3), (4, .int x4), (5, .int a0), (6, .int a1), (7, .int a2), (8, .int a3), (9, .int 2)]) dL_finds_37 (by decide) rfl ?_
  refine x_iload C 9 dL_finds_39 rfl ?_
  refine x_iconst C (v := 1) dL_finds_41 (by decide) ?_
  refine x_icmp_lt C (t := 61) dL_finds_42 (by decide) (fun c9 => absurd c9 (by decide)) (fun _ => ?_)
  refine x_aload_n C 0 dL_finds_45 rfl ?_
  refine x_iconst C (v := 0) dL_finds_46 (by decide) ?_
  refine x_iload_n C 1 dL_finds_47 rfl ?_
  refine x_iload_n C 2 dL_finds_48 rfl ?_
  refine x_iload_n C 3 dL_finds_49 rfl ?_
  refine x_iload C 4 dL_finds_50 rfl ?_
  refine x_iconst C (v := 0) dL_finds_52 (by decide) ?_
  refine x_ci0 (x_runV C (As := [.int 0, .int x1, .int x2, .int x3, .int x4, .int 0]) (rest := []) (c_X5_search_ok h0) (cw_L_finds_X5_search C) 32 rfl rfl rfl (Nat.le_of_ble_eq_true rfl) dL_finds_53 ⟨by show _ ≤ 0; omega, by show _ ≤ 0; omega⟩) ?_
  refine x_iload C 5 dL_finds_56 rfl ?_
  refine x_icmp_ne C (t := 147) dL_finds_58 (by decide) (fun c9 => absurd rfl c9) (fun _ => ?_)
  refine x_iload C 9 dL_finds_61 rfl ?_
  refine x_iconst C (v := 2) dL_finds_63 (by decide) ?_
  refine x_icmp_lt C (t := 83) dL_finds_64 (by decide) (fun c9 => absurd c9 (by decide)) (fun _ => ?_)
  refine x_aload_n C 0 dL_finds_67 rfl ?_
  refine x_iconst C (v := 0) dL_finds_68 (by decide) ?_
  refine x_iload_n C 1 dL_finds_69 rfl ?_
  refine x_iload_n C 2 dL_finds_70 rfl ?_
  refine x_iload_n C 3 dL_finds_71 rfl ?_
  refine x_iload C 4 dL_finds_72 rfl ?_
  refine x_iconst C (v := 1) dL_finds_74 (by decide) ?_
  refine x_ci0 (x_runV C (As := [.int 0, .int x1, .int x2, .int x3, .int x4, .int 1]) (rest := []) (c_X5_search_ok h1) (cw_L_finds_X5_search C) 32 rfl rfl rfl (Nat.le_of_ble_eq_true rfl) dL_finds_75 ⟨by show _ ≤ 0; omega, by show _ ≤ 0; omega⟩) ?_
  refine x_iload C 6 dL_finds_78 rfl ?_
  refine x_icmp_ne C (t := 147) dL_finds_80 (by decide) (fun c9 => absurd rfl c9) (fun _ => ?_)
  refine x_iload C 9 dL_finds_83 rfl ?_
  refine x_iconst C (v := 3) dL_finds_85 (by decide) ?_
  refine x_icmp_lt C (t := 105) dL_finds_86 (by decide) (fun _ => ?_) (fun c9 => absurd c9 (by decide))
  refine x_iload C 9 dL_finds_105 rfl ?_
  refine x_iconst C (v := 4) dL_finds_107 (by decide) ?_
  refine x_icmp_lt C (t := 127) dL_finds_108 (by decide) (fun _ => ?_) (fun c9 => absurd c9 (by decide))
  refine x_aload_n C 0 dL_finds_127 rfl ?_
  refine x_iconst C (v := 0) dL_finds_128 (by decide) ?_
  refine x_iload_n C 1 dL_finds_129 rfl ?_
  refine x_iload_n C 2 dL_finds_130 rfl ?_
  refine x_iload_n C 3 dL_finds_131 rfl ?_
  refine x_iload C 4 dL_finds_132 rfl ?_
  refine x_iload C 9 dL_finds_134 rfl ?_
  refine x_ci0 (x_runV C (As := [.int 0, .int x1, .int x2, .int x3, .int x4, .int 2]) (rest := []) (c_X5_search_ok h2) (cw_L_finds_X5_search C) 32 rfl rfl rfl (Nat.le_of_ble_eq_true rfl) dL_finds_136 ⟨by show _ ≤ 0; omega, by show _ ≤ 0; omega⟩) ?_
  refine x_iconst C (v := (-1)) dL_finds_139 (by decide) ?_
  refine x_icmp_ne C (t := 147) dL_finds_140 (by decide) (fun c9 => absurd c9 (by decide)) (fun _ => ?_)
  refine x_iconst C (v := 1) dL_finds_143 (by decide) ?_
  refine x_goto C (t := 148) dL_finds_144 (by decide) ?_
  exact x_zret C (v := 1) (by decide) dL_finds_148
set_option maxHeartbeats 4000000 in
set_option maxRecDepth 100000 in
theorem c_L_finds_3 {l : Launch} {D : va_G} {cI cZ cJ : ClassId} {ad : Nat → Nat} {S0 S1 S2 S3 S4 : St} {rest : va_W} {x1 x2 x3 x4 a0 a1 a2 a3 : Int32} (g0 : 0 ≤ a0) (g1 : 0 ≤ a1) (g2 : 0 ≤ a2) (g3 : ¬ 0 ≤ a3) (h0 : X5_search S0 0 x1 x2 x3 x4 0 = some (0, a0, S1)) (h1 : X5_search S1 0 x1 x2 x3 x4 1 = some (0, a1, S2)) (h2 : X5_search S2 0 x1 x2 x3 x4 2 = some (0, a2, S3)) (h3 : X5_search S3 0 x1 x2 x3 x4 3 = some (0, -1, S4)) : ∀ sz, Met l yL_finds wsL_finds rm_L_finds (PC D (t3 cI cZ cJ) [.ref (ad 32), .int x1, .int x2, .int x3, .int x4, .int a0, .int a1, .int a2, .int a3] (wE cI cZ ad S0 (eo ad (ad 0) (ad 7) rest)) sz) (QI D (t3 cI cZ cJ) (wE cI cZ ad S0 (eo ad (ad 0) (ad 7) rest)) (wE cI cZ ad S4 (eo ad (ad 0) (ad 7) rest)) sz 1) 0 0 (va_A (wE cI cZ ad S0 (eo ad (ad 0) (ad 7) rest)) sz) := by
  refine x_met (Qc := fun sz => QI D (t3 cI cZ cJ) (wE cI cZ ad S0 (eo ad (ad 0) (ad 7) rest)) (wE cI cZ ad S4 (eo ad (ad 0) (ad 7) rest)) sz 1) RL rfl (by decide) rfl (Nat.le_of_ble_eq_true rfl) (fun p e s m args below meth c C => ?_)
  refine x_iload C 5 dL_finds_0 rfl ?_
  refine x_if_ge C (t := 9) dL_finds_2 (by decide) (fun _ => ?_) (fun c9 => absurd g0 c9)
  refine x_iload C 6 dL_finds_9 rfl ?_
  refine x_if_ge C (t := 18) dL_finds_11 (by decide) (fun _ => ?_) (fun c9 => absurd g1 c9)
  refine x_iload C 7 dL_finds_18 rfl ?_
  refine x_if_ge C (t := 27) dL_finds_20 (by decide) (fun _ => ?_) (fun c9 => absurd g2 c9)
  refine x_iload C 8 dL_finds_27 rfl ?_
  refine x_if_ge C (t := 36) dL_finds_29 (by decide) (fun c9 => absurd c9 g3) (fun _ => ?_)
  refine x_iconst C (v := 3) dL_finds_32 (by decide) ?_
  refine x_goto C (t := 37) dL_finds_33 (by decide) ?_
  refine x_istore C (lv' := [(0, .ref (ad 32)), (1, .int x1), (2, .int x2), (3, .int x3), (4, .int x4), (5, .int a0), (6, .int a1), (7, .int a2), (8, .int a3), (9, .int 3)]) dL_finds_37 (by decide) rfl ?_
  refine x_iload C 9 dL_finds_39 rfl ?_
  refine x_iconst C (v := 1) dL_finds_41 (by decide) ?_
  refine x_icmp_lt C (t := 61) dL_finds_42 (by decide) (fun c9 => absurd c9 (by decide)) (fun _ => ?_)
  refine x_aload_n C 0 dL_finds_45 rfl ?_
  refine x_iconst C (v := 0) dL_finds_46 (by decide) ?_
  refine x_iload_n C 1 dL_finds_47 rfl ?_
  refine x_iload_n C 2 dL_finds_48 rfl ?_
  refine x_iload_n C 3 dL_finds_49 rfl ?_
  refine x_iload C 4 dL_finds_50 rfl ?_
  refine x_iconst C (v := 0) dL_finds_52 (by decide) ?_
  refine x_ci0 (x_runV C (As := [.int 0, .int x1, .int x2, .int x3, .int x4, .int 0]) (rest := []) (c_X5_search_ok h0) (cw_L_finds_X5_search C) 32 rfl rfl rfl (Nat.le_of_ble_eq_true rfl) dL_finds_53 ⟨by show _ ≤ 0; omega, by show _ ≤ 0; omega⟩) ?_
  refine x_iload C 5 dL_finds_56 rfl ?_
  refine x_icmp_ne C (t := 147) dL_finds_58 (by decide) (fun c9 => absurd rfl c9) (fun _ => ?_)
  refine x_iload C 9 dL_finds_61 rfl ?_
  refine x_iconst C (v := 2) dL_finds_63 (by decide) ?_
  refine x_icmp_lt C (t := 83) dL_finds_64 (by decide) (fun c9 => absurd c9 (by decide)) (fun _ => ?_)
  refine x_aload_n C 0 dL_finds_67 rfl ?_
  refine x_iconst C (v := 0) dL_finds_68 (by decide) ?_
  refine x_iload_n C 1 dL_finds_69 rfl ?_
  refine x_iload_n C 2 dL_finds_70 rfl ?_
  refine x_iload_n C 3 dL_finds_71 rfl ?_
  refine x_iload C 4 dL_finds_72 rfl ?_
  refine x_iconst C (v := 1) dL_finds_74 (by decide) ?_
  refine x_ci0 (x_runV C (As := [.int 0, .int x1, .int x2, .int x3, .int x4, .int 1]) (rest := []) (c_X5_search_ok h1) (cw_L_finds_X5_search C) 32 rfl rfl rfl (Nat.le_of_ble_eq_true rfl) dL_finds_75 ⟨by show _ ≤ 0; omega, by show _ ≤ 0; omega⟩) ?_
  refine x_iload C 6 dL_finds_78 rfl ?_
  refine x_icmp_ne C (t := 147) dL_finds_80 (by decide) (fun c9 => absurd rfl c9) (fun _ => ?_)
  refine x_iload C 9 dL_finds_83 rfl ?_
  refine x_iconst C (v := 3) dL_finds_85 (by decide) ?_
  refine x_icmp_lt C (t := 105) dL_finds_86 (by decide) (fun c9 => absurd c9 (by decide)) (fun _ => ?_)
  refine x_aload_n C 0 dL_finds_89 rfl ?_
  refine x_iconst C (v := 0) dL_finds_90 (by decide) ?_
  refine x_iload_n C 1 dL_finds_91 rfl ?_
  refine x_iload_n C 2 dL_finds_92 rfl ?_
  refine x_iload_n C 3 dL_finds_93 rfl ?_
  refine x_iload C 4 dL_finds_94 rfl ?_
  refine x_iconst C (v := 2) dL_finds_96 (by decide) ?_
  refine x_ci0 (x_runV C (As := [.int 0, .int x1, .int x2, .int x3, .int x4, .int 2]) (rest := []) (c_X5_search_ok h2) (cw_L_finds_X5_search C) 32 rfl rfl rfl (Nat.le_of_ble_eq_true rfl) dL_finds_97 ⟨by show _ ≤ 0; omega, by show _ ≤ 0; omega⟩) ?_
  refine x_iload C 7 dL_finds_100 rfl ?_
  refine x_icmp_ne C (t := 147) dL_finds_102 (by decide) (fun c9 => absurd rfl c9) (fun _ => ?_)
  refine x_iload C 9 dL_finds_105 rfl ?_
  refine x_iconst C (v := 4) dL_finds_107 (by decide) ?_
  refine x_icmp_lt C (t := 127) dL_finds_108 (by decide) (fun _ => ?_) (fun c9 => absurd c9 (by decide))
  refine x_aload_n C 0 dL_finds_127 rfl ?_
  refine x_iconst C (v := 0) dL_finds_128 (by decide) ?_
  refine x_iload_n C 1 dL_finds_129 rfl ?_
  refine x_iload_n C 2 dL_finds_130 rfl ?_
  refine x_iload_n C 3 dL_finds_131 rfl ?_
  refine x_iload C 4 dL_finds_132 rfl ?_
  refine x_iload C 9 dL_finds_134 rfl ?_
  refine x_ci0 (x_runV C (As := [.int 0, .int x1, .int x2, .int x3, .int x4, .int 3]) (rest := []) (c_X5_search_ok h3) (cw_L_finds_X5_search C) 32 rfl rfl rfl (Nat.le_of_ble_eq_true rfl) dL_finds_136 ⟨by show _ ≤ 0; omega, by show _ ≤ 0; omega⟩) ?_
  refine x_iconst C (v := (-1)) dL_finds_139 (by decide) ?_
  refine x_icmp_ne C (t := 147) dL_finds_140 (by decide) (fun c9 => absurd c9 (by decide)) (fun _ => ?_)
  refine x_iconst C (v := 1) dL_finds_143 (by decide) ?_
  refine x_goto C (t := 148) dL_finds_144 (by decide) ?_
  exact x_zret C (v := 1) (by decide) dL_finds_148
set_option maxHeartbeats 4000000 in
set_option maxRecDepth 100000 in
theorem c_L_finds_4 {l : Launch} {D : va_G} {cI cZ cJ : ClassId} {ad : Nat → Nat} {S0 S1 S2 S3 S4 S5 : St} {rest : va_W} {x1 x2 x3 x4 a0 a1 a2 a3 : Int32} (g0 : 0 ≤ a0) (g1 : 0 ≤ a1) (g2 : 0 ≤ a2) (g3 : 0 ≤ a3) (h0 : X5_search S0 0 x1 x2 x3 x4 0 = some (0, a0, S1)) (h1 : X5_search S1 0 x1 x2 x3 x4 1 = some (0, a1, S2)) (h2 : X5_search S2 0 x1 x2 x3 x4 2 = some (0, a2, S3)) (h3 : X5_search S3 0 x1 x2 x3 x4 3 = some (0, a3, S4)) (h4 : X5_search S4 0 x1 x2 x3 x4 4 = some (0, -1, S5)) : ∀ sz, Met l yL_finds wsL_finds rm_L_finds (PC D (t3 cI cZ cJ) [.ref (ad 32), .int x1, .int x2, .int x3, .int x4, .int a0, .int a1, .int a2, .int a3] (wE cI cZ ad S0 (eo ad (ad 0) (ad 7) rest)) sz) (QI D (t3 cI cZ cJ) (wE cI cZ ad S0 (eo ad (ad 0) (ad 7) rest)) (wE cI cZ ad S5 (eo ad (ad 0) (ad 7) rest)) sz 1) 0 0 (va_A (wE cI cZ ad S0 (eo ad (ad 0) (ad 7) rest)) sz) := by
  refine x_met (Qc := fun sz => QI D (t3 cI cZ cJ) (wE cI cZ ad S0 (eo ad (ad 0) (ad 7) rest)) (wE cI cZ ad S5 (eo ad (ad 0) (ad 7) rest)) sz 1) RL rfl (by decide) rfl (Nat.le_of_ble_eq_true rfl) (fun p e s m args below meth c C => ?_)
  refine x_iload C 5 dL_finds_0 rfl ?_
  refine x_if_ge C (t := 9) dL_finds_2 (by decide) (fun _ => ?_) (fun c9 => absurd g0 c9)
  refine x_iload C 6 dL_finds_9 rfl ?_
  refine x_if_ge C (t := 18) dL_finds_11 (by decide) (fun _ => ?_) (fun c9 => absurd g1 c9)
  refine x_iload C 7 dL_finds_18 rfl ?_
  refine x_if_ge C (t := 27) dL_finds_20 (by decide) (fun _ => ?_) (fun c9 => absurd g2 c9)
  refine x_iload C 8 dL_finds_27 rfl ?_
  refine x_if_ge C (t := 36) dL_finds_29 (by decide) (fun _ => ?_) (fun c9 => absurd g3 c9)
  refine x_iconst C (v := 4) dL_finds_36 (by decide) ?_
  refine x_istore C (lv' := [(0, .ref (ad 32)), (1, .int x1), (2, .int x2), (3, .int x3), (4, .int x4), (5, .int a0), (6, .int a1), (7, .int a2), (8, .int a3), (9, .int 4)]) dL_finds_37 (by decide) rfl ?_
  refine x_iload C 9 dL_finds_39 rfl ?_
  refine x_iconst C (v := 1) dL_finds_41 (by decide) ?_
  refine x_icmp_lt C (t := 61) dL_finds_42 (by decide) (fun c9 => absurd c9 (by decide)) (fun _ => ?_)
  refine x_aload_n C 0 dL_finds_45 rfl ?_
  refine x_iconst C (v := 0) dL_finds_46 (by decide) ?_
  refine x_iload_n C 1 dL_finds_47 rfl ?_
  refine x_iload_n C 2 dL_finds_48 rfl ?_
  refine x_iload_n C 3 dL_finds_49 rfl ?_
  refine x_iload C 4 dL_finds_50 rfl ?_
  refine x_iconst C (v := 0) dL_finds_52 (by decide) ?_
  refine x_ci0 (x_runV C (As := [.int 0, .int x1, .int x2, .int x3, .int x4, .int 0]) (rest := []) (c_X5_search_ok h0) (cw_L_finds_X5_search C) 32 rfl rfl rfl (Nat.le_of_ble_eq_true rfl) dL_finds_53 ⟨by show _ ≤ 0; omega, by show _ ≤ 0; omega⟩) ?_
  refine x_iload C 5 dL_finds_56 rfl ?_
  refine x_icmp_ne C (t := 147) dL_finds_58 (by decide) (fun c9 => absurd rfl c9) (fun _ => ?_)
  refine x_iload C 9 dL_finds_61 rfl ?_
  refine x_iconst C (v := 2) dL_finds_63 (by decide) ?_
  refine x_icmp_lt C (t := 83) dL_finds_64 (by decide) (fun c9 => absurd c9 (by decide)) (fun _ => ?_)
  refine x_aload_n C 0 dL_finds_67 rfl ?_
  refine x_iconst C (v := 0) dL_finds_68 (by decide) ?_
  refine x_iload_n C 1 dL_finds_69 rfl ?_
  refine x_iload_n C 2 dL_finds_70 rfl ?_
  refine x_iload_n C 3 dL_finds_71 rfl ?_
  refine x_iload C 4 dL_finds_72 rfl ?_
  refine x_iconst C (v := 1) dL_finds_74 (by decide) ?_
  refine x_ci0 (x_runV C (As := [.int 0, .int x1, .int x2, .int x3, .int x4, .int 1]) (rest := []) (c_X5_search_ok h1) (cw_L_finds_X5_search C) 32 rfl rfl rfl (Nat.le_of_ble_eq_true rfl) dL_finds_75 ⟨by show _ ≤ 0; omega, by show _ ≤ 0; omega⟩) ?_
  refine x_iload C 6 dL_finds_78 rfl ?_
  refine x_icmp_ne C (t := 147) dL_finds_80 (by decide) (fun c9 => absurd rfl c9) (fun _ => ?_)
  refine x_iload C 9 dL_finds_83 rfl ?_
  refine x_iconst C (v := 3) dL_finds_85 (by decide) ?_
  refine x_icmp_lt C (t := 105) dL_finds_86 (by decide) (fun c9 => absurd c9 (by decide)) (fun _ => ?_)
  refine x_aload_n C 0 dL_finds_89 rfl ?_
  refine x_iconst C (v := 0) dL_finds_90 (by decide) ?_
  refine x_iload_n C 1 dL_finds_91 rfl ?_
  refine x_iload_n C 2 dL_finds_92 rfl ?_
  refine x_iload_n C 3 dL_finds_93 rfl ?_
  refine x_iload C 4 dL_finds_94 rfl ?_
  refine x_iconst C (v := 2) dL_finds_96 (by decide) ?_
  refine x_ci0 (x_runV C (As := [.int 0, .int x1, .int x2, .int x3, .int x4, .int 2]) (rest := []) (c_X5_search_ok h2) (cw_L_finds_X5_search C) 32 rfl rfl rfl (Nat.le_of_ble_eq_true rfl) dL_finds_97 ⟨by show _ ≤ 0; omega, by show _ ≤ 0; omega⟩) ?_
  refine x_iload C 7 dL_finds_100 rfl ?_
  refine x_icmp_ne C (t := 147) dL_finds_102 (by decide) (fun c9 => absurd rfl c9) (fun _ => ?_)
  refine x_iload C 9 dL_finds_105 rfl ?_
  refine x_iconst C (v := 4) dL_finds_107 (by decide) ?_
  refine x_icmp_lt C (t := 127) dL_finds_108 (by decide) (fun c9 => absurd c9 (by decide)) (fun _ => ?_)
  refine x_aload_n C 0 dL_finds_111 rfl ?_
  refine x_iconst C (v := 0) dL_finds_112 (by decide) ?_
  refine x_iload_n C 1 dL_finds_113 rfl ?_
  refine x_iload_n C 2 dL_finds_114 rfl ?_
  refine x_iload_n C 3 dL_finds_115 rfl ?_
  refine x_iload C 4 dL_finds_116 rfl ?_
  refine x_iconst C (v := 3) dL_finds_118 (by decide) ?_
  refine x_ci0 (x_runV C (As := [.int 0, .int x1, .int x2, .int x3, .int x4, .int 3]) (rest := []) (c_X5_search_ok h3) (cw_L_finds_X5_search C) 32 rfl rfl rfl (Nat.le_of_ble_eq_true rfl) dL_finds_119 ⟨by show _ ≤ 0; omega, by show _ ≤ 0; omega⟩) ?_
  refine x_iload C 8 dL_finds_122 rfl ?_
  refine x_icmp_ne C (t := 147) dL_finds_124 (by decide) (fun c9 => absurd rfl c9) (fun _ => ?_)
  refine x_aload_n C 0 dL_finds_127 rfl ?_
  refine x_iconst C (v := 0) dL_finds_128 (by decide) ?_
  refine x_iload_n C 1 dL_finds_129 rfl ?_
  refine x_iload_n C 2 dL_finds_130 rfl ?_
  refine x_iload_n C 3 dL_finds_131 rfl ?_
  refine x_iload C 4 dL_finds_132 rfl ?_
  refine x_iload C 9 dL_finds_134 rfl ?_
  refine x_ci0 (x_runV C (As := [.int 0, .int x1, .int x2, .int x3, .int x4, .int 4]) (rest := []) (c_X5_search_ok h4) (cw_L_finds_X5_search C) 32 rfl rfl rfl (Nat.le_of_ble_eq_true rfl) dL_finds_136 ⟨by show _ ≤ 0; omega, by show _ ≤ 0; omega⟩) ?_
  refine x_iconst C (v := (-1)) dL_finds_139 (by decide) ?_
  refine x_icmp_ne C (t := 147) dL_finds_140 (by decide) (fun c9 => absurd c9 (by decide)) (fun _ => ?_)
  refine x_iconst C (v := 1) dL_finds_143 (by decide) ?_
  refine x_goto C (t := 148) dL_finds_144 (by decide) ?_
  exact x_zret C (v := 1) (by decide) dL_finds_148
