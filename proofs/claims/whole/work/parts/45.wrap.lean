/-! the law's setClass -/
def rm_L_setClass (kc : Nat) : Room := rmf 8 127 kc
theorem cw_L_setClass {p : Program} {s : State} {m : MethodId} {args : Array Value} {meth : Method} {c : Code} {D : va_G} {tys : List (ClassId × FieldType)} {R : Room} {kc : Nat} (C : XC p R s m args meth c cL_setClass 5 (some .int) RL wsL_setClass D tys) : CallW (rm_L_setClass kc) s args RL RX5 7 yX5_setClass cX5_setClass 4 none wsX5_setClass (rm_X5_setClass 0) 0 0 3 := cwV 3 C.2.2.2.2.1 gL_setClass_X5_setClass rfl rfl rfl (by decide +kernel) ⟨Nat.le_of_ble_eq_true rfl, Nat.le_of_ble_eq_true rfl⟩
theorem cw_L_setClass_th {p : Program} {s : State} {m : MethodId} {args : Array Value} {meth : Method} {c : Code} {D : va_G} {tys : List (ClassId × FieldType)} {R : Room} {kc : Nat} {q : Nat} (C : XC p R s m args meth c cL_setClass 5 (some .int) RL wsL_setClass D tys) : CallW (rm_L_setClass kc) s args RL RX5 7 yX5_setClass cX5_setClass 4 none wsX5_setClass (rm_X5_setClass (q + 1)) 1 6 3 := cwV 3 C.2.2.2.2.1 gL_setClass_X5_setClass rfl rfl rfl (by decide +kernel) ⟨Nat.le_of_ble_eq_true rfl, Nat.le_of_ble_eq_true rfl⟩
theorem hk_L_setClass_13 : Cond.classLink RL 13 (exN 0) ∈ wsL_setClass := by decide +kernel
theorem hk_L_setClass_15 : Cond.classLink RL 15 (exN 1) ∈ wsL_setClass := by decide +kernel
theorem hk_L_setClass_17 : Cond.classLink RL 17 (exN 2) ∈ wsL_setClass := by decide +kernel
set_option maxHeartbeats 4000000 in
set_option maxRecDepth 100000 in
theorem c_L_setClass_ok {l : Launch} {D : va_G} {cI cZ cJ : ClassId} {ad : Nat → Nat} {S : St} {rest : va_W} {x1 x2 x3 : Int32} {S' : St} (hfl : l.stackTraces = false) (h : X5_setClass S x1 x2 x3 = some (0, S')) : ∀ sz, Met l yL_setClass wsL_setClass (rm_L_setClass 0) (PY D (t3 cI cZ cJ) [.ref (ad 32), .int x1, .int x2, .int x3] (wE cI cZ ad S (eo ad (ad 0) (ad 7) rest)) sz) (QI D (t3 cI cZ cJ) (wE cI cZ ad S (eo ad (ad 0) (ad 7) rest)) (wE cI cZ ad S' (eo ad (ad 0) (ad 7) rest)) sz 0) 0 0 (va_A (wE cI cZ ad S (eo ad (ad 0) (ad 7) rest)) sz) := by
  refine x_metH hfl (Qc := fun sz => QI D (t3 cI cZ cJ) (wE cI cZ ad S (eo ad (ad 0) (ad 7) rest)) (wE cI cZ ad S' (eo ad (ad 0) (ad 7) rest)) sz 0) RL rfl (by decide) rfl (Nat.le_of_ble_eq_true rfl) (fun p e s m args below meth c C T => ?_)
  refine x_aload_n C 0 dL_setClass_0 rfl ?_
  refine x_iload_n C 1 dL_setClass_1 rfl ?_
  refine x_iload_n C 2 dL_setClass_2 rfl ?_
  refine x_iload_n C 3 dL_setClass_3 rfl ?_
  refine x_cv0 (x_runV C (As := [.int x1, .int x2, .int x3]) (rest := []) (c_X5_setClass_ok h) (cw_L_setClass C) 32 rfl rfl rfl (Nat.le_of_ble_eq_true rfl) dL_setClass_4 ⟨Nat.zero_le _, Nat.zero_le _⟩) ?_
  refine x_goto C (t := 22) dL_setClass_7 (by decide) ?_
  refine x_iconst C (v := 0) dL_setClass_22 (by decide) ?_
  exact x_iret C dL_setClass_23
set_option maxHeartbeats 4000000 in
set_option maxRecDepth 100000 in
theorem c_L_setClass_th0 {l : Launch} {D : va_G} {cI cZ cJ : ClassId} {ad : Nat → Nat} {S : St} {rest : va_W} {x1 x2 x3 : Int32} {S' : St} (hfl : l.stackTraces = false) (h : X5_setClass S x1 x2 x3 = some (1, S')) : ∀ sz, Met l yL_setClass wsL_setClass (rm_L_setClass 1) (PY D (t3 cI cZ cJ) [.ref (ad 32), .int x1, .int x2, .int x3] (wE cI cZ ad S (eo ad (ad 0) (ad 7) rest)) sz) (QI D (t3 cI cZ cJ) (wE cI cZ ad S (eo ad (ad 0) (ad 7) rest)) (wE cI cZ ad S' (eo ad (ad 0) (ad 7) rest)) sz 1) 1 6 (va_A (wE cI cZ ad S (eo ad (ad 0) (ad 7) rest)) sz) := by
  refine x_metH hfl (Qc := fun sz => QI D (t3 cI cZ cJ) (wE cI cZ ad S (eo ad (ad 0) (ad 7) rest)) (wE cI cZ ad S' (eo ad (ad 0) (ad 7) rest)) sz 1) RL rfl (by decide) rfl (Nat.le_of_ble_eq_true rfl) (fun p e s m args below meth c C T => ?_)
  refine x_aload_n C 0 dL_setClass_0 rfl ?_
  refine x_iload_n C 1 dL_setClass_1 rfl ?_
  refine x_iload_n C 2 dL_setClass_2 rfl ?_
  refine x_iload_n C 3 dL_setClass_3 rfl ?_
  refine x_catch C T (kk := 0) (x_runVX C T.2.2.1 (As := [.int x1, .int x2, .int x3]) (rest := []) (c_X5_setClass_th hfl h) (cw_L_setClass_th C) 32 rfl rfl rfl (Nat.le_of_ble_eq_true rfl) dL_setClass_4 ⟨Nat.le_refl _, Nat.le_refl _⟩) (tableOf []) ⟨0, 7, 10, 13⟩ (tableOf [(0, 7, 14, 15), (0, 7, 18, 17)]) rfl (fun z hz => nomatch hz) (by decide) (by decide) hk_L_setClass_13 (fun q => ?_)
  refine x_astore C (lv' := [(0, .ref (ad 32)), (1, .int x1), (2, .int x2), (3, .int x3), (4, .ref q)]) dL_setClass_10 (by decide) rfl ?_
  refine x_iconst C (v := 1) dL_setClass_12 (by decide) ?_
  exact x_iret C dL_setClass_13
set_option maxHeartbeats 4000000 in
set_option maxRecDepth 100000 in
theorem c_L_setClass_th1 {l : Launch} {D : va_G} {cI cZ cJ : ClassId} {ad : Nat → Nat} {S : St} {rest : va_W} {x1 x2 x3 : Int32} {S' : St} (hfl : l.stackTraces = false) (h : X5_setClass S x1 x2 x3 = some (2, S')) : ∀ sz, Met l yL_setClass wsL_setClass (rm_L_setClass 1) (PY D (t3 cI cZ cJ) [.ref (ad 32), .int x1, .int x2, .int x3] (wE cI cZ ad S (eo ad (ad 0) (ad 7) rest)) sz) (QI D (t3 cI cZ cJ) (wE cI cZ ad S (eo ad (ad 0) (ad 7) rest)) (wE cI cZ ad S' (eo ad (ad 0) (ad 7) rest)) sz 2) 1 6 (va_A (wE cI cZ ad S (eo ad (ad 0) (ad 7) rest)) sz) := by
  refine x_metH hfl (Qc := fun sz => QI D (t3 cI cZ cJ) (wE cI cZ ad S (eo ad (ad 0) (ad 7) rest)) (wE cI cZ ad S' (eo ad (ad 0) (ad 7) rest)) sz 2) RL rfl (by decide) rfl (Nat.le_of_ble_eq_true rfl) (fun p e s m args below meth c C T => ?_)
  refine x_aload_n C 0 dL_setClass_0 rfl ?_
  refine x_iload_n C 1 dL_setClass_1 rfl ?_
  refine x_iload_n C 2 dL_setClass_2 rfl ?_
  refine x_iload_n C 3 dL_setClass_3 rfl ?_
  refine x_catch C T (kk := 1) (x_runVX C T.2.2.1 (As := [.int x1, .int x2, .int x3]) (rest := []) (c_X5_setClass_th hfl h) (cw_L_setClass_th C) 32 rfl rfl rfl (Nat.le_of_ble_eq_true rfl) dL_setClass_4 ⟨Nat.le_refl _, Nat.le_refl _⟩) (tableOf [(0, 7, 10, 13)]) ⟨0, 7, 14, 15⟩ (tableOf [(0, 7, 18, 17)]) rfl (fun z hz => by
    rcases List.mem_cons.mp hz with rfl | hz
    · exact ⟨by decide, _, hk_L_setClass_13, T.2.2.2 1 0 (by decide) (by decide) (by decide)⟩
    exact nomatch hz) (by decide) (by decide) hk_L_setClass_15 (fun q => ?_)
  refine x_astore C (lv' := [(0, .ref (ad 32)), (1, .int x1), (2, .int x2), (3, .int x3), (4, .ref q)]) dL_setClass_14 (by decide) rfl ?_
  refine x_iconst C (v := 2) dL_setClass_16 (by decide) ?_
  exact x_iret C dL_setClass_17
set_option maxHeartbeats 4000000 in
set_option maxRecDepth 100000 in
theorem c_L_setClass_th2 {l : Launch} {D : va_G} {cI cZ cJ : ClassId} {ad : Nat → Nat} {S : St} {rest : va_W} {x1 x2 x3 : Int32} {S' : St} (hfl : l.stackTraces = false) (h : X5_setClass S x1 x2 x3 = some (3, S')) : ∀ sz, Met l yL_setClass wsL_setClass (rm_L_setClass 1) (PY D (t3 cI cZ cJ) [.ref (ad 32), .int x1, .int x2, .int x3] (wE cI cZ ad S (eo ad (ad 0) (ad 7) rest)) sz) (QI D (t3 cI cZ cJ) (wE cI cZ ad S (eo ad (ad 0) (ad 7) rest)) (wE cI cZ ad S' (eo ad (ad 0) (ad 7) rest)) sz 3) 1 6 (va_A (wE cI cZ ad S (eo ad (ad 0) (ad 7) rest)) sz) := by
  refine x_metH hfl (Qc := fun sz => QI D (t3 cI cZ cJ) (wE cI cZ ad S (eo ad (ad 0) (ad 7) rest)) (wE cI cZ ad S' (eo ad (ad 0) (ad 7) rest)) sz 3) RL rfl (by decide) rfl (Nat.le_of_ble_eq_true rfl) (fun p e s m args below meth c C T => ?_)
  refine x_aload_n C 0 dL_setClass_0 rfl ?_
  refine x_iload_n C 1 dL_setClass_1 rfl ?_
  refine x_iload_n C 2 dL_setClass_2 rfl ?_
  refine x_iload_n C 3 dL_setClass_3 rfl ?_
  refine x_catch C T (kk := 2) (x_runVX C T.2.2.1 (As := [.int x1, .int x2, .int x3]) (rest := []) (c_X5_setClass_th hfl h) (cw_L_setClass_th C) 32 rfl rfl rfl (Nat.le_of_ble_eq_true rfl) dL_setClass_4 ⟨Nat.le_refl _, Nat.le_refl _⟩) (tableOf [(0, 7, 10, 13), (0, 7, 14, 15)]) ⟨0, 7, 18, 17⟩ (tableOf []) rfl (fun z hz => by
    rcases List.mem_cons.mp hz with rfl | hz
    · exact ⟨by decide, _, hk_L_setClass_13, T.2.2.2 2 0 (by decide) (by decide) (by decide)⟩
    rcases List.mem_cons.mp hz with rfl | hz
    · exact ⟨by decide, _, hk_L_setClass_15, T.2.2.2 2 1 (by decide) (by decide) (by decide)⟩
    exact nomatch hz) (by decide) (by decide) hk_L_setClass_17 (fun q => ?_)
  refine x_astore C (lv' := [(0, .ref (ad 32)), (1, .int x1), (2, .int x2), (3, .int x3), (4, .ref q)]) dL_setClass_18 (by decide) rfl ?_
  refine x_iconst C (v := 3) dL_setClass_20 (by decide) ?_
  exact x_iret C dL_setClass_21
/-! the law's add -/
def rm_L_add (kc : Nat) : Room := rmf 9 164 kc
theorem cw_L_add {p : Program} {s : State} {m : MethodId} {args : Array Value} {meth : Method} {c : Code} {D : va_G} {tys : List (ClassId × FieldType)} {R : Room} {kc : Nat} (C : XC p R s m args meth c cL_add 7 (some .int) RL wsL_add D tys) : CallW (rm_L_add kc) s args RL RX5 19 yX5_add cX5_add 7 (some .int) wsX5_add (rm_X5_add 0) 0 0 4 := cwV 4 C.2.2.2.2.1 gL_add_X5_add rfl rfl rfl (by decide +kernel) ⟨Nat.le_of_ble_eq_true rfl, Nat.le_of_ble_eq_true rfl⟩
theorem cw_L_add_th {p : Program} {s : State} {m : MethodId} {args : Array Value} {meth : Method} {c : Code} {D : va_G} {tys : List (ClassId × FieldType)} {R : Room} {kc : Nat} {q : Nat} (C : XC p R s m args meth c cL_add 7 (some .int) RL wsL_add D tys) : CallW (rm_L_add kc) s args RL RX5 19 yX5_add cX5_add 7 (some .int) wsX5_add (rm_X5_add (q + 1)) 1 6 4 := cwV 4 C.2.2.2.2.1 gL_add_X5_add rfl rfl rfl (by decide +kernel) ⟨Nat.le_of_ble_eq_true rfl, Nat.le_of_ble_eq_true rfl⟩
theorem hk_L_add_13 : Cond.classLink RL 13 (exN 0) ∈ wsL_add := by decide +kernel
theorem hk_L_add_15 : Cond.classLink RL 15 (exN 1) ∈ wsL_add := by decide +kernel
theorem hk_L_add_17 : Cond.classLink RL 17 (exN 2) ∈ wsL_add := by decide +kernel
set_option maxHeartbeats 4000000 in
set_option maxRecDepth 100000 in
theorem c_L_add_ok {l : Launch} {D : va_G} {cI cZ cJ : ClassId} {ad : Nat → Nat} {S : St} {rest : va_W} {ao : Nat} {fo : Nat → Int64} {x1 x2 x3 x4 : Int32} {v : Int32} {S' : St} (hfl : l.stackTraces = false) (h : X5_add S x1 x2 x3 x4 = some (0, v, S')) : ∀ sz, Met l yL_add wsL_add (rm_L_add 0) (PY D (t3 cI cZ cJ) [.ref (ad 32), .int x1, .int x2, .int x3, .int x4, .ref ao] (wE cI cZ ad S (eo ad (ad 0) (ad 7) (oc ao cJ fo rest))) sz) (QI D (t3 cI cZ cJ) (wE cI cZ ad S (eo ad (ad 0) (ad 7) (oc ao cJ fo rest))) (wE cI cZ ad S' (eo ad (ad 0) (ad 7) (oc ao cJ (vp_updL fo 0 v.toInt64) rest))) sz 0) 0 0 (va_A (wE cI cZ ad S (eo ad (ad 0) (ad 7) (oc ao cJ fo rest))) sz) := by
  refine x_metH hfl (Qc := fun sz => QI D (t3 cI cZ cJ) (wE cI cZ ad S (eo ad (ad 0) (ad 7) (oc ao cJ fo rest))) (wE cI cZ ad S' (eo ad (ad 0) (ad 7) (oc ao cJ (vp_updL fo 0 v.toInt64) rest))) sz 0) RL rfl (by decide) rfl (Nat.le_of_ble_eq_true rfl) (fun p e s m args below meth c C T => ?_)
  refine x_aload C 5 dL_add_0 rfl ?_
  refine x_iconst C (v := 0) dL_add_2 (by decide) ?_
  refine x_aload_n C 0 dL_add_3 rfl ?_
  refine x_iload_n C 1 dL_add_4 rfl ?_
  refine x_iload_n C 2 dL_add_5 rfl ?_
  refine x_iload_n C 3 dL_add_6 rfl ?_
  refine x_iload C 4 dL_add_7 rfl ?_
  refine x_ci0 (x_runV C (As := [.int x1, .int x2, .int x3, .int x4]) (rest := [.int 0, .ref ao]) (c_X5_add_ok h) (cw_L_add C) 32 rfl rfl rfl (Nat.le_of_ble_eq_true rfl) dL_add_9 ⟨Nat.zero_le _, Nat.zero_le _⟩) ?_
  refine x_i2l C dL_add_12 ?_
  refine x_last C 33 rfl (show ¬ ((0:Int32) < 0 ∨ 1 ≤ (0:Int32).toNatClampNeg) by decide) dL_add_13 (x := v.toInt64) (w' := (wE cI cZ ad S' (eo ad (ad 0) (ad 7) (oc ao cJ (vp_updL fo 0 v.toInt64) rest)))) rfl ?_
  refine x_goto C (t := 29) dL_add_14 (by decide) ?_
  refine x_iconst C (v := 0) dL_add_29 (by decide) ?_
  exact x_iret C dL_add_30
set_option maxHeartbeats 4000000 in
set_option maxRecDepth 100000 in
theorem c_L_add_th0 {l : Launch} {D : va_G} {cI cZ cJ : ClassId} {ad : Nat → Nat} {S : St} {rest : va_W} {ao : Nat} {fo : Nat → Int64} {x1 x2 x3 x4 : Int32} {v : Int32} {S' : St} (hfl : l.stackTraces = false) (h : X5_add S x1 x2 x3 x4 = some (1, v, S')) : ∀ sz, Met l yL_add wsL_add (rm_L_add 1) (PY D (t3 cI cZ cJ) [.ref (ad 32), .int x1, .int x2, .int x3, .int x4, .ref ao] (wE cI cZ ad S (eo ad (ad 0) (ad 7) (oc ao cJ fo rest))) sz) (QI D (t3 cI cZ cJ) (wE cI cZ ad S (eo ad (ad 0) (ad 7) (oc ao cJ fo rest))) (wE cI cZ ad S' (eo ad (ad 0) (ad 7) (oc ao cJ fo rest))) sz 1) 1 6 (va_A (wE cI cZ ad S (eo ad (ad 0) (ad 7) (oc ao cJ fo rest))) sz) := by
  refine x_metH hfl (Qc := fun sz => QI D (t3 cI cZ cJ) (wE cI cZ ad S (eo ad (ad 0) (ad 7) (oc ao cJ fo rest))) (wE cI cZ ad S' (eo ad (ad 0) (ad 7) (oc ao cJ fo rest))) sz 1) RL rfl (by decide) rfl (Nat.le_of_ble_eq_true rfl) (fun p e s m args below meth c C T => ?_)
  refine x_aload C 5 dL_add_0 rfl ?_
  refine x_iconst C (v := 0) dL_add_2 (by decide) ?_
  refine x_aload_n C 0 dL_add_3 rfl ?_
  refine x_iload_n C 1 dL_add_4 rfl ?_
  refine x_iload_n C 2 dL_add_5 rfl ?_
  refine x_iload_n C 3 dL_add_6 rfl ?_
  refine x_iload C 4 dL_add_7 rfl ?_
  refine x_catch C T (kk := 0) (x_runVX C T.2.2.1 (As := [.int x1, .int x2, .int x3, .int x4]) (rest := [.int 0, .ref ao]) (c_X5_add_th hfl h) (cw_L_add_th C) 32 rfl rfl rfl (Nat.le_of_ble_eq_true rfl) dL_add_9 ⟨Nat.le_refl _, Nat.le_refl _⟩) (tableOf []) ⟨0, 14, 17, 13⟩ (tableOf [(0, 14, 21, 15), (0, 14, 25, 17)]) rfl (fun z hz => nomatch hz) (by decide) (by decide) hk_L_add_13 (fun q => ?_)
  refine x_astore C (lv' := [(0, .ref (ad 32)), (1, .int x1), (2, .int x2), (3, .int x3), (4, .int x4), (5, .ref ao), (6, .ref q)]) dL_add_17 (by decide) rfl ?_
  refine x_iconst C (v := 1) dL_add_19 (by decide) ?_
  exact x_iret C dL_add_20
set_option maxHeartbeats 4000000 in
set_option maxRecDepth 100000 in
theorem c_L_add_th1 {l : Launch} {D : va_G} {cI cZ cJ : ClassId} {ad : Nat → Nat} {S : St} {rest : va_W} {ao : Nat} {fo : Nat → Int64} {x1 x2 x3 x4 : Int32} {v : Int32} {S' : St} (hfl : l.stackTraces = false) (h : X5_add S x1 x2 x3 x4 = some (2, v, S')) : ∀ sz, Met l yL_add wsL_add (rm_L_add 1) (PY D (t3 cI cZ cJ) [.ref (ad 32), .int x1, .int x2, .int x3, .int x4, .ref ao] (wE cI cZ ad S (eo ad (ad 0) (ad 7) (oc ao cJ fo rest))) sz) (QI D (t3 cI cZ cJ) (wE cI cZ ad S (eo ad (ad 0) (ad 7) (oc ao cJ fo rest))) (wE cI cZ ad S' (eo ad (ad 0) (ad 7) (oc ao cJ fo rest))) sz 2) 1 6 (va_A (wE cI cZ ad S (eo ad (ad 0) (ad 7) (oc ao cJ fo rest))) sz) := by
  refine x_metH hfl (Qc := fun sz => QI D (t3 cI cZ cJ) (wE cI cZ ad S (eo ad (ad 0) (ad 7) (oc ao cJ fo rest))) (wE cI cZ ad S' (eo ad (ad 0) (ad 7) (oc ao cJ fo rest))) sz 2) RL rfl (by decide) rfl (Nat.le_of_ble_eq_true rfl) (fun p e s m args below meth c C T => ?_)
  refine x_aload C 5 dL_add_0 rfl ?_
  refine x_iconst C (v := 0) dL_add_2 (by decide) ?_
  refine x_aload_n C 0 dL_add_3 rfl ?_
  refine x_iload_n C 1 dL_add_4 rfl ?_
  refine x_iload_n C 2 dL_add_5 rfl ?_
  refine x_iload_n C 3 dL_add_6 rfl ?_
  refine x_iload C 4 dL_add_7 rfl ?_
  refine x_catch C T (kk := 1) (x_runVX C T.2.2.1 (As := [.int x1, .int x2, .int x3, .int x4]) (rest := [.int 0, .ref ao]) (c_X5_add_th hfl h) (cw_L_add_th C) 32 rfl rfl rfl (Nat.le_of_ble_eq_true rfl) dL_add_9 ⟨Nat.le_refl _, Nat.le_refl _⟩) (tableOf [(0, 14, 17, 13)]) ⟨0, 14, 21, 15⟩ (tableOf [(0, 14, 25, 17)]) rfl (fun z hz => by
    rcases List.mem_cons.mp hz with rfl | hz
    · exact ⟨by decide, _, hk_L_add_13, T.2.2.2 1 0 (by decide) (by decide) (by decide)⟩
    exact nomatch hz) (by decide) (by decide) hk_L_add_15 (fun q => ?_)
  refine x_astore C (lv' := [(0, .ref (ad 32)), (1, .int x1), (2, .int x2), (3, .int x3), (4, .int x4), (5, .ref ao), (6, .ref q)]) dL_add_21 (by decide) rfl ?_
  refine x_iconst C (v := 2) dL_add_23 (by decide) ?_
  exact x_iret C dL_add_24
set_option maxHeartbeats 4000000 in
set_option maxRecDepth 100000 in
theorem c_L_add_th2 {l : Launch} {D : va_G} {cI cZ cJ : ClassId} {ad : Nat → Nat} {S : St} {rest : va_W} {ao : Nat} {fo : Nat → Int64} {x1 x2 x3 x4 : Int32} {v : Int32} {S' : St} (hfl : l.stackTraces = false) (h : X5_add S x1 x2 x3 x4 = some (3, v, S')) : ∀ sz, Met l yL_add wsL_add (rm_L_add 1) (PY D (t3 cI cZ cJ) [.ref (ad 32), .int x1, .int x2, .int x3, .int x4, .ref ao] (wE cI cZ ad S (eo ad (ad 0) (ad 7) (oc ao cJ fo rest))) sz) (QI D (t3 cI cZ cJ) (wE cI cZ ad S (eo ad (ad 0) (ad 7) (oc ao cJ fo rest))) (wE cI cZ ad S' (eo ad (ad 0) (ad 7) (oc ao cJ fo rest))) sz 3) 1 6 (va_A (wE cI cZ ad S (eo ad (ad 0) (ad 7) (oc ao cJ fo rest))) sz) := by
  refine x_metH hfl (Qc := fun sz => QI D (t3 cI cZ cJ) (wE cI cZ ad S (eo ad (ad 0) (ad 7) (oc ao cJ fo rest))) (wE cI cZ ad S' (eo ad (ad 0) (ad 7) (oc ao cJ fo rest))) sz 3) RL rfl (by decide) rfl (Nat.le_of_ble_eq_true rfl) (fun p e s m args below meth c C T => ?_)
  refine x_aload C 5 dL_add_0 rfl ?_
  refine x_iconst C (v := 0) dL_add_2 (by decide) ?_
  refine x_aload_n C 0 dL_add_3 rfl ?_
  refine x_iload_n C 1 dL_add_4 rfl ?_
  refine x_iload_n C 2 dL_add_5 rfl ?_
  refine x_iload_n C 3 dL_add_6 rfl ?_
  refine x_iload C 4 dL_add_7 rfl ?_
  refine x_catch C T (kk := 2) (x_runVX C T.2.2.1 (As := [.int x1, .int x2, .int x3, .int x4]) (rest := [.int 0, .ref ao]) (c_X5_add_th hfl h) (cw_L_add_th C) 32 rfl rfl rfl (Nat.le_of_ble_eq_true rfl) dL_add_9 ⟨Nat.le_refl _, Nat.le_refl _⟩) (tableOf [(0, 14, 17, 13), (0, 14, 21, 15)]) ⟨0, 14, 25, 17⟩ (tableOf []) rfl (fun z hz => by
    rcases List.mem_cons.mp hz with rfl | hz
    · exact ⟨by decide, _, hk_L_add_13, T.2.2.2 2 0 (by decide) (by decide) (by decide)⟩
    rcases List.mem_cons.mp hz with rfl | hz
    · exact ⟨by decide, _, hk_L_add_15, T.2.2.2 2 1 (by decide) (by decide) (by decide)⟩
    exact nomatch hz) (by decide) (by decide) hk_L_add_17 (fun q => ?_)
  refine x_astore C (lv' := [(0, .ref (ad 32)), (1, .int x1), (2, .int x2), (3, .int x3), (4, .int x4), (5, .ref ao), (6, .ref q)]) dL_add_25 (by decide) rfl ?_
  refine x_iconst C (v := 3) dL_add_27 (by decide) ?_
  exact x_iret C dL_add_28
/-! the law's set -/
def rm_L_set (kc : Nat) : Room := rmf 9 164 kc
theorem cw_L_set {p : Program} {s : State} {m : MethodId} {args : Array Value} {meth : Method} {c : Code} {D : va_G} {tys : List (ClassId × FieldType)} {R : Room} {kc : Nat} (C : XC p R s m args meth c cL_set 7 (some .int) RL wsL_set D tys) : CallW (rm_L_set kc) s args RL RX5 23 yX5_set cX5_set 7 (some .int) wsX5_set (rm_X5_set 0) 0 0 4 := cwV 4 C.2.2.2.2.1 gL_set_X5_set rfl rfl rfl (by decide +kernel) ⟨Nat.le_of_ble_eq_true rfl, Nat.le_of_ble_eq_true rfl⟩
theorem cw_L_set_th {p : Program} {s : State} {m : MethodId} {args : Array Value} {meth : Method} {c : Code} {D : va_G} {tys : List (ClassId × FieldType)} {R : Room} {kc : Nat} {q : Nat} (C : XC p R s m args meth c cL_set 7 (some .int) RL wsL_set D tys) : CallW (rm_L_set kc) s args RL RX5 23 yX5_set cX5_set 7 (some .int) wsX5_set (rm_X5_set (q + 1)) 1 6 4 := cwV 4 C.2.2.2.2.1 gL_set_X5_set rfl rfl rfl (by decide +kernel) ⟨Nat.le_of_ble_eq_true rfl, Nat.le_of_ble_eq_true rfl⟩
theorem hk_L_set_13 : Cond.classLink RL 13 (exN 0) ∈ wsL_set := by decide +kernel
theorem hk_L_set_15 : Cond.classLink RL 15 (exN 1) ∈ wsL_set := by decide +kernel
theorem hk_L_set_17 : Cond.classLink RL 17 (exN 2) ∈ wsL_set := by decide +kernel
set_option maxHeartbeats 4000000 in
set_option maxRecDepth 100000 in
theorem c_L_set_ok {l : Launch} {D : va_G} {cI cZ cJ : ClassId} {ad : Nat → Nat} {S : St} {rest : va_W} {ao : Nat} {fo : Nat → Int64} {x1 x2 x3 x4 : Int32} {v : Int32} {S' : St} (hfl : l.stackTraces = false) (h : X5_set S x1 x2 x3 x4 = some (0, v, S')) : ∀ sz, Met l yL_set wsL_set (rm_L_set 0) (PY D (t3 cI cZ cJ) [.ref (ad 32), .int x1, .int x2, .int x3, .int x4, .ref ao] (wE cI cZ ad S (eo ad (ad 0) (ad 7) (oc ao cJ fo rest))) sz) (QI D (t3 cI cZ cJ) (wE cI cZ ad S (eo ad (ad 0) (ad 7) (oc ao cJ fo rest))) (wE cI cZ ad S' (eo ad (ad 0) (ad 7) (oc ao cJ (vp_updL fo 0 v.toInt64) rest))) sz 0) 0 0 (va_A (wE cI cZ ad S (eo ad (ad 0) (ad 7) (oc ao cJ fo rest))) sz) := by
  refine x_metH hfl (Qc := fun sz => QI D (t3 cI cZ cJ) (wE cI cZ ad S (eo ad (ad 0) (ad 7) (oc ao cJ fo rest))) (wE cI cZ ad S' (eo ad (ad 0) (ad 7) (oc ao cJ (vp_updL fo 0 v.toInt64) rest))) sz 0) RL rfl (by decide) rfl (Nat.le_of_ble_eq_true rfl) (fun p e s m args below meth c C T => ?_)
  refine x_aload C 5 dL_set_0 rfl ?_
  refine x_iconst C (v := 0) dL_set_2 (by decide) ?_
  refine x_aload_n C 0 dL_set_3 rfl ?_
  refine x_iload_n C 1 dL_set_4 rfl ?_
  refine x_iload_n C 2 dL_set_5 rfl ?_
  refine x_iload_n C 3 dL_set_6 rfl ?_
  refine x_iload C 4 dL_set_7 rfl ?_
  refine x_ci0 (x_runV C (As := [.int x1, .int x2, .int x3, .int x4]) (rest := [.int 0, .ref ao]) (c_X5_set_ok h) (cw_L_set C) 32 rfl rfl rfl (Nat.le_of_ble_eq_true rfl) dL_set_9 ⟨Nat.zero_le _, Nat.zero_le _⟩) ?_
  refine x_i2l C dL_set_12 ?_
  refine x_last C 33 rfl (show ¬ ((0:Int32) < 0 ∨ 1 ≤ (0:Int32).toNatClampNeg) by decide) dL_set_13 (x := v.toInt64) (w' := (wE cI cZ ad S' (eo ad (ad 0) (ad 7) (oc ao cJ (vp_updL fo 0 v.toInt64) rest)))) rfl ?_
  refine x_goto C (t := 29) dL_set_14 (by decide) ?_
  refine x_iconst C (v := 0) dL_set_29 (by decide) ?_
  exact x_iret C dL_set_30
set_option maxHeartbeats 4000000 in
set_option maxRecDepth 100000 in
theorem c_L_set_th0 {l : Launch} {D : va_G} {cI cZ cJ : ClassId} {ad : Nat → Nat} {S : St} {rest : va_W} {ao : Nat} {fo : Nat → Int64} {x1 x2 x3 x4 : Int32} {v : Int32} {S' : St} (hfl : l.stackTraces = false) (h : X5_set S x1 x2 x3 x4 = some (1, v, S')) : ∀ sz, Met l yL_set wsL_set (rm_L_set 1) (PY D (t3 cI cZ cJ) [.ref (ad 32), .int x1, .int x2, .int x3, .int x4, .ref ao] (wE cI cZ ad S (eo ad (ad 0) (ad 7) (oc ao cJ fo rest))) sz) (QI D (t3 cI cZ cJ) (wE cI cZ ad S (eo ad (ad 0) (ad 7) (oc ao cJ fo rest))) (wE cI cZ ad S' (eo ad (ad 0) (ad 7) (oc ao cJ fo rest))) sz 1) 1 6 (va_A (wE cI cZ ad S (eo ad (ad 0) (ad 7) (oc ao cJ fo rest))) sz) := by
  refine x_metH hfl (Qc := fun sz => QI D (t3 cI cZ cJ) (wE cI cZ ad S (eo ad (ad 0) (ad 7) (oc ao cJ fo rest))) (wE cI cZ ad S' (eo ad (ad 0) (ad 7) (oc ao cJ fo rest))) sz 1) RL rfl (by decide) rfl (Nat.le_of_ble_eq_true rfl) (fun p e s m args below meth c C T => ?_)
  refine x_aload C 5 dL_set_0 rfl ?_
  refine x_iconst C (v := 0) dL_set_2 (by decide) ?_
  refine x_aload_n C 0 dL_set_3 rfl ?_
  refine x_iload_n C 1 dL_set_4 rfl ?_
  refine x_iload_n C 2 dL_set_5 rfl ?_
  refine x_iload_n C 3 dL_set_6 rfl ?_
  refine x_iload C 4 dL_set_7 rfl ?_
  refine x_catch C T (kk := 0) (x_runVX C T.2.2.1 (As := [.int x1, .int x2, .int x3, .int x4]) (rest := [.int 0, .ref ao]) (c_X5_set_th hfl h) (cw_L_set_th C) 32 rfl rfl rfl (Nat.le_of_ble_eq_true rfl) dL_set_9 ⟨Nat.le_refl _, Nat.le_refl _⟩) (tableOf []) ⟨0, 14, 17, 13⟩ (tableOf [(0, 14, 21, 15), (0, 14, 25, 17)]) rfl (fun z hz => nomatch hz) (by decide) (by decide) hk_L_set_13 (fun q => ?_)
  refine x_astore C (lv' := [(0, .ref (ad 32)), (1, .int x1), (2, .int x2), (3, .int x3), (4, .int x4), (5, .ref ao), (6, .ref q)]) dL_set_17 (by decide) rfl ?_
  refine x_iconst C (v := 1) dL_set_19 (by decide) ?_
  exact x_iret C dL_set_20
set_option maxHeartbeats 4000000 in
set_option maxRecDepth 100000 in
theorem c_L_set_th1 {l : Launch} {D : va_G} {cI cZ cJ : ClassId} {ad : Nat → Nat} {S : St} {rest : va_W} {ao : Nat} {fo : Nat → Int64} {x1 x2 x3 x4 : Int32} {v : Int32} {S' : St} (hfl : l.stackTraces = false) (h : X5_set S x1 x2 x3 x4 = some (2, v, S')) : ∀ sz, Met l yL_set wsL_set (rm_L_set 1) (PY D (t3 cI cZ cJ) [.ref (ad 32), .int x1, .int x2, .int x3, .int x4, .ref ao] (wE cI cZ ad S (eo ad (ad 0) (ad 7) (oc ao cJ fo rest))) sz) (QI D (t3 cI cZ cJ) (wE cI cZ ad S (eo ad (ad 0) (ad 7) (oc ao cJ fo rest))) (wE cI cZ ad S' (eo ad (ad 0) (ad 7) (oc ao cJ fo rest))) sz 2) 1 6 (va_A (wE cI cZ ad S (eo ad (ad 0) (ad 7) (oc ao cJ fo rest))) sz) := by
  refine x_metH hfl (Qc := fun sz => QI D (t3 cI cZ cJ) (wE cI cZ ad S (eo ad (ad 0) (ad 7) (oc ao cJ fo rest))) (wE cI cZ ad S' (eo ad (ad 0) (ad 7) (oc ao cJ fo rest))) sz 2) RL rfl (by decide) rfl (Nat.le_of_ble_eq_true rfl) (fun p e s m args below meth c C T => ?_)
  refine x_aload C 5 dL_set_0 rfl ?_
  refine x_iconst C (v := 0) dL_set_2 (by decide) ?_
  refine x_aload_n C 0 dL_set_3 rfl ?_
  refine x_iload_n C 1 dL_set_4 rfl ?_
  refine x_iload_n C 2 dL_set_5 rfl ?_
  refine x_iload_n C 3 dL_set_6 rfl ?_
  refine x_iload C 4 dL_set_7 rfl ?_
  refine x_catch C T (kk := 1) (x_runVX C T.2.2.1 (As := [.int x1, .int x2, .int x3, .int x4]) (rest := [.int 0, .ref ao]) (c_X5_set_th hfl h) (cw_L_set_th C) 32 rfl rfl rfl (Nat.le_of_ble_eq_true rfl) dL_set_9 ⟨Nat.le_refl _, Nat.le_refl _⟩) (tableOf [(0, 14, 17, 13)]) ⟨0, 14, 21, 15⟩ (tableOf [(0, 14, 25, 17)]) rfl (fun z hz => by
    rcases List.mem_cons.mp hz with rfl | hz
    · exact ⟨by decide, _, hk_L_set_13, T.2.2.2 1 0 (by decide) (by decide) (by decide)⟩
    exact nomatch hz) (by decide) (by decide) hk_L_set_15 (fun q => ?_)
  refine x_astore C (lv' := [(0, .ref (ad 32)), (1, .int x1), (2, .int x2), (3, .int x3), (4, .int x4), (5, .ref ao), (6, .ref q)]) dL_set_21 (by decide) rfl ?_
  refine x_iconst C (v := 2) dL_set_23 (by decide) ?_
  exact x_iret C dL_set_24
set_option maxHeartbeats 4000000 in
set_option maxRecDepth 100000 in
theorem c_L_set_th2 {l : Launch} {D : va_G} {cI cZ cJ : ClassId} {ad : Nat → Nat} {S : St} {rest : va_W} {ao : Nat} {fo : Nat → Int64} {x1 x2 x3 x4 : Int32} {v : Int32} {S' : St} (hfl : l.stackTraces = false) (h : X5_set S x1 x2 x3 x4 = some (3, v, S')) : ∀ sz, Met l yL_set wsL_set (rm_L_set 1) (PY D (t3 cI cZ cJ) [.ref (ad 32), .int x1, .int x2, .int x3, .int x4, .ref ao] (wE cI cZ ad S (eo ad (ad 0) (ad 7) (oc ao cJ fo rest))) sz) (QI D (t3 cI cZ cJ) (wE cI cZ ad S (eo ad (ad 0) (ad 7) (oc ao cJ fo rest))) (wE cI cZ ad S' (eo ad (ad 0) (ad 7) (oc ao cJ fo rest))) sz 3) 1 6 (va_A (wE cI cZ ad S (eo ad (ad 0) (ad 7) (oc ao cJ fo rest))) sz) := by
  refine x_metH hfl (Qc := fun sz => QI D (t3 cI cZ cJ) (wE cI cZ ad S (eo ad (ad 0) (ad 7) (oc ao cJ fo rest))) (wE cI cZ ad S' (eo ad (ad 0) (ad 7) (oc ao cJ fo rest))) sz 3) RL rfl (by decide) rfl (Nat.le_of_ble_eq_true rfl) (fun p e s m args below meth c C T => ?_)
  refine x_aload C 5 dL_set_0 rfl ?_
  refine x_iconst C (v := 0) dL_set_2 (by decide) ?_
  refine x_aload_n C 0 dL_set_3 rfl ?_
  refine x_iload_n C 1 dL_set_4 rfl ?_
  refine x_iload_n C 2 dL_set_5 rfl ?_
  refine x_iload_n C 3 dL_set_6 rfl ?_
  refine x_iload C 4 dL_set_7 rfl ?_
  refine x_catch C T (kk := 2) (x_runVX C T.2.2.1 (As := [.int x1, .int x2, .int x3, .int x4]) (rest := [.int 0, .ref ao]) (c_X5_set_th hfl h) (cw_L_set_th C) 32 rfl rfl rfl (Nat.le_of_ble_eq_true rfl) dL_set_9 ⟨Nat.le_refl _, Nat.le_refl _⟩) (tableOf [(0, 14, 17, 13), (0, 14, 21, 15)]) ⟨0, 14, 25, 17⟩ (tableOf []) rfl (fun z hz => by
    rcases List.mem_cons.mp hz with rfl | hz
    · exact ⟨by decide, _, hk_L_set_13, T.2.2.2 2 0 (by decide) (by decide) (by decide)⟩
    rcases List.mem_cons.mp hz with rfl | hz
    · exact ⟨by decide, _, hk_L_set_15, T.2.2.2 2 1 (by decide) (by decide) (by decide)⟩
    exact nomatch hz) (by decide) (by decide) hk_L_set_17 (fun q => ?_)
  refine x_astore C (lv' := [(0, .ref (ad 32)), (1, .int x1), (2, .int x2), (3, .int x3), (4, .int x4), (5, .ref ao), (6, .ref q)]) dL_set_25 (by decide) rfl ?_
  refine x_iconst C (v := 3) dL_set_27 (by decide) ?_
  exact x_iret C dL_set_28
/-! the law's move -/
def rm_L_move (kc : Nat) : Room := rmf 9 164 kc
theorem cw_L_move {p : Program} {s : State} {m : MethodId} {args : Array Value} {meth : Method} {c : Code} {D : va_G} {tys : List (ClassId × FieldType)} {R : Room} {kc : Nat} (C : XC p R s m args meth c cL_move 7 (some .int) RL wsL_move D tys) : CallW (rm_L_move kc) s args RL RX5 26 yX5_move cX5_move 7 (some .int) wsX5_move (rm_X5_move 0) 0 0 4 := cwV 4 C.2.2.2.2.1 gL_move_X5_move rfl rfl rfl (by decide +kernel) ⟨Nat.le_of_ble_eq_true rfl, Nat.le_of_ble_eq_true rfl⟩
theorem cw_L_move_th {p : Program} {s : State} {m : MethodId} {args : Array Value} {meth : Method} {c : Code} {D : va_G} {tys : List (ClassId × FieldType)} {R : Room} {kc : Nat} {q : Nat} (C : XC p R s m args meth c cL_move 7 (some .int) RL wsL_move D tys) : CallW (rm_L_move kc) s args RL RX5 26 yX5_move cX5_move 7 (some .int) wsX5_move (rm_X5_move (q + 1)) 1 6 4 := cwV 4 C.2.2.2.2.1 gL_move_X5_move rfl rfl rfl (by decide +kernel) ⟨Nat.le_of_ble_eq_true rfl, Nat.le_of_ble_eq_true rfl⟩
theorem hk_L_move_13 : Cond.classLink RL 13 (exN 0) ∈ wsL_move := by decide +kernel
theorem hk_L_move_15 : Cond.classLink RL 15 (exN 1) ∈ wsL_move := by decide +kernel
theorem hk_L_move_17 : Cond.classLink RL 17 (exN 2) ∈ wsL_move := by decide +kernel
set_option maxHeartbeats 4000000 in
set_option maxRecDepth 100000 in
theorem c_L_move_ok {l : Launch} {D : va_G} {cI cZ cJ : ClassId} {ad : Nat → Nat} {S : St} {rest : va_W} {ao : Nat} {fo : Nat → Int64} {x1 x2 x3 x4 : Int32} {v : Int32} {S' : St} (hfl : l.stackTraces = false) (h : X5_move S x1 x2 x3 x4 = some (0, v, S')) : ∀ sz, Met l yL_move wsL_move (rm_L_move 0) (PY D (t3 cI cZ cJ) [.ref (ad 32), .int x1, .int x2, .int x3, .int x4, .ref ao] (wE cI cZ ad S (eo ad (ad 0) (ad 7) (oc ao cJ fo rest))) sz) (QI D (t3 cI cZ cJ) (wE cI cZ ad S (eo ad (ad 0) (ad 7) (oc ao cJ fo rest))) (wE cI cZ ad S' (eo ad (ad 0) (ad 7) (oc ao cJ (vp_updL fo 0 v.toInt64) rest))) sz 0) 0 0 (va_A (wE cI cZ ad S (eo ad (ad 0) (ad 7) (oc ao cJ fo rest))) sz) := by
  refine x_metH hfl (Qc := fun sz => QI D (t3 cI cZ cJ) (wE cI cZ ad S (eo ad (ad 0) (ad 7) (oc ao cJ fo rest))) (wE cI cZ ad S' (eo ad (ad 0) (ad 7) (oc ao cJ (vp_updL fo 0 v.toInt64) rest))) sz 0) RL rfl (by decide) rfl (Nat.le_of_ble_eq_true rfl) (fun p e s m args below meth c C T => ?_)
  refine x_aload C 5 dL_move_0 rfl ?_
  refine x_iconst C (v := 0) dL_move_2 (by decide) ?_
  refine x_aload_n C 0 dL_move_3 rfl ?_
  refine x_iload_n C 1 dL_move_4 rfl ?_
  refine x_iload_n C 2 dL_move_5 rfl ?_
  refine x_iload_n C 3 dL_move_6 rfl ?_
  refine x_iload C 4 dL_move_7 rfl ?_
  refine x_ci0 (x_runV C (As := [.int x1, .int x2, .int x3, .int x4]) (rest := [.int 0, .ref ao]) (c_X5_move_ok h) (cw_L_move C) 32 rfl rfl rfl (Nat.le_of_ble_eq_true rfl) dL_move_9 ⟨Nat.zero_le _, Nat.zero_le _⟩) ?_
  refine x_i2l C dL_move_12 ?_
  refine x_last C 33 rfl (show ¬ ((0:Int32) < 0 ∨ 1 ≤ (0:Int32).toNatClampNeg) by decide) dL_move_13 (x := v.toInt64) (w' := (wE cI cZ ad S' (eo ad (ad 0) (ad 7) (oc ao cJ (vp_updL fo 0 v.toInt64) rest)))) rfl ?_
  refine x_goto C (t := 29) dL_move_14 (by decide) ?_
  refine x_iconst C (v := 0) dL_move_29 (by decide) ?_
  exact x_iret C dL_move_30
set_option maxHeartbeats 4000000 in
set_option maxRecDepth 100000 in
theorem c_L_move_th0 {l : Launch} {D : va_G} {cI cZ cJ : ClassId} {ad : Nat → Nat} {S : St} {rest : va_W} {ao : Nat} {fo : Nat → Int64} {x1 x2 x3 x4 : Int32} {v : Int32} {S' : St} (hfl : l.stackTraces = false) (h : X5_move S x1 x2 x3 x4 = some (1, v, S')) : ∀ sz, Met l yL_move wsL_move (rm_L_move 1) (PY D (t3 cI cZ cJ) [.ref (ad 32), .int x1, .int x2, .int x3, .int x4, .ref ao] (wE cI cZ ad S (eo ad (ad 0) (ad 7) (oc ao cJ fo rest))) sz) (QI D (t3 cI cZ cJ) (wE cI cZ ad S (eo ad (ad 0) (ad 7) (oc ao cJ fo rest))) (wE cI cZ ad S' (eo ad (ad 0) (ad 7) (oc ao cJ fo rest))) sz 1) 1 6 (va_A (wE cI cZ ad S (eo ad (ad 0) (ad 7) (oc ao cJ fo rest))) sz) := by
  refine x_metH hfl (Qc := fun sz => QI D (t3 cI cZ cJ) (wE cI cZ ad S (eo ad (ad 0) (ad 7) (oc ao cJ fo rest))) (wE cI cZ ad S' (eo ad (ad 0) (ad 7) (oc ao cJ fo rest))) sz 1) RL rfl (by decide) rfl (Nat.le_of_ble_eq_true rfl) (fun p e s m args below meth c C T => ?_)
  refine x_aload C 5 dL_move_0 rfl ?_
  refine x_iconst C (v := 0) dL_move_2 (by decide) ?_
  refine x_aload_n C 0 dL_move_3 rfl ?_
  refine x_iload_n C 1 dL_move_4 rfl ?_
  refine x_iload_n C 2 dL_move_5 rfl ?_
  refine x_iload_n C 3 dL_move_6 rfl ?_
  refine x_iload C 4 dL_move_7 rfl ?_
  refine x_catch C T (kk := 0) (x_runVX C T.2.2.1 (As := [.int x1, .int x2, .int x3, .int x4]) (rest := [.int 0, .ref ao]) (c_X5_move_th hfl h) (cw_L_move_th C) 32 rfl rfl rfl (Nat.le_of_ble_eq_true rfl) dL_move_9 ⟨Nat.le_refl _, Nat.le_refl _⟩) (tableOf []) ⟨0, 14, 17, 13⟩ (tableOf [(0, 14, 21, 15), (0, 14, 25, 17)]) rfl (fun z hz => nomatch hz) (by decide) (by decide) hk_L_move_13 (fun q => ?_)
  refine x_astore C (lv' := [(0, .ref (ad 32)), (1, .int x1), (2, .int x2), (3, .int x3), (4, .int x4), (5, .ref ao), (6, .ref q)]) dL_move_17 (by decide) rfl ?_
  refine x_iconst C (v := 1) dL_move_19 (by decide) ?_
  exact x_iret C dL_move_20
set_option maxHeartbeats 4000000 in
set_option maxRecDepth 100000 in
theorem c_L_move_th1 {l : Launch} {D : va_G} {cI cZ cJ : ClassId} {ad : Nat → Nat} {S : St} {rest : va_W} {ao : Nat} {fo : Nat → Int64} {x1 x2 x3 x4 : Int32} {v : Int32} {S' : St} (hfl : l.stackTraces = false) (h : X5_move S x1 x2 x3 x4 = some (2, v, S')) : ∀ sz, Met l yL_move wsL_move (rm_L_move 1) (PY D (t3 cI cZ cJ) [.ref (ad 32), .int x1, .int x2, .int x3, .int x4, .ref ao] (wE cI cZ ad S (eo ad (ad 0) (ad 7) (oc ao cJ fo rest))) sz) (QI D (t3 cI cZ cJ) (wE cI cZ ad S (eo ad (ad 0) (ad 7) (oc ao cJ fo rest))) (wE cI cZ ad S' (eo ad (ad 0) (ad 7) (oc ao cJ fo rest))) sz 2) 1 6 (va_A (wE cI cZ ad S (eo ad (ad 0) (ad 7) (oc ao cJ fo rest))) sz) := by
  refine x_metH hfl (Qc := fun sz => QI D (t3 cI cZ cJ) (wE cI cZ ad S (eo ad (ad 0) (ad 7) (oc ao cJ fo rest))) (wE cI cZ ad S' (eo ad (ad 0) (ad 7) (oc ao cJ fo rest))) sz 2) RL rfl (by decide) rfl (Nat.le_of_ble_eq_true rfl) (fun p e s m args below meth c C T => ?_)
  refine x_aload C 5 dL_move_0 rfl ?_
  refine x_iconst C (v := 0) dL_move_2 (by decide) ?_
  refine x_aload_n C 0 dL_move_3 rfl ?_
  refine x_iload_n C 1 dL_move_4 rfl ?_
  refine x_iload_n C 2 dL_move_5 rfl ?_
  refine x_iload_n C 3 dL_move_6 rfl ?_
  refine x_iload C 4 dL_move_7 rfl ?_
  refine x_catch C T (kk := 1) (x_runVX C T.2.2.1 (As := [.int x1, .int x2, .int x3, .int x4]) (rest := [.int 0, .ref ao]) (c_X5_move_th hfl h) (cw_L_move_th C) 32 rfl rfl rfl (Nat.le_of_ble_eq_true rfl) dL_move_9 ⟨Nat.le_refl _, Nat.le_refl _⟩) (tableOf [(0, 14, 17, 13)]) ⟨0, 14, 21, 15⟩ (tableOf [(0, 14, 25, 17)]) rfl (fun z hz => by
    rcases List.mem_cons.mp hz with rfl | hz
    · exact ⟨by decide, _, hk_L_move_13, T.2.2.2 1 0 (by decide) (by decide) (by decide)⟩
    exact nomatch hz) (by decide) (by decide) hk_L_move_15 (fun q => ?_)
  refine x_astore C (lv' := [(0, .ref (ad 32)), (1, .int x1), (2, .int x2), (3, .int x3), (4, .int x4), (5, .ref ao), (6, .ref q)]) dL_move_21 (by decide) rfl ?_
  refine x_iconst C (v := 2) dL_move_23 (by decide) ?_
  exact x_iret C dL_move_24
set_option maxHeartbeats 4000000 in
set_option maxRecDepth 100000 in
theorem c_L_move_th2 {l : Launch} {D : va_G} {cI cZ cJ : ClassId} {ad : Nat → Nat} {S : St} {rest : va_W} {ao : Nat} {fo : Nat → Int64} {x1 x2 x3 x4 : Int32} {v : Int32} {S' : St} (hfl : l.stackTraces = false) (h : X5_move S x1 x2 x3 x4 = some (3, v, S')) : ∀ sz, Met l yL_move wsL_move (rm_L_move 1) (PY D (t3 cI cZ cJ) [.ref (ad 32), .int x1, .int x2, .int x3, .int x4, .ref ao] (wE cI cZ ad S (eo ad (ad 0) (ad 7) (oc ao cJ fo rest))) sz) (QI D (t3 cI cZ cJ) (wE cI cZ ad S (eo ad (ad 0) (ad 7) (oc ao cJ fo rest))) (wE cI cZ ad S' (eo ad (ad 0) (ad 7) (oc ao cJ fo rest))) sz 3) 1 6 (va_A (wE cI cZ ad S (eo ad (ad 0) (ad 7) (oc ao cJ fo rest))) sz) := by
  refine x_metH hfl (Qc := fun sz => QI D (t3 cI cZ cJ) (wE cI cZ ad S (eo ad (ad 0) (ad 7) (oc ao cJ fo rest))) (wE cI cZ ad S' (eo ad (ad 0) (ad 7) (oc ao cJ fo rest))) sz 3) RL rfl (by decide) rfl (Nat.le_of_ble_eq_true rfl) (fun p e s m args below meth c C T => ?_)
  refine x_aload C 5 dL_move_0 rfl ?_
  refine x_iconst C (v := 0) dL_move_2 (by decide) ?_
  refine x_aload_n C 0 dL_move_3 rfl ?_
  refine x_iload_n C 1 dL_move_4 rfl ?_
  refine x_iload_n C 2 dL_move_5 rfl ?_
  refine x_iload_n C 3 dL_move_6 rfl ?_
  refine x_iload C 4 dL_move_7 rfl ?_
  refine x_catch C T (kk := 2) (x_runVX C T.2.2.1 (As := [.int x1, .int x2, .int x3, .int x4]) (rest := [.int 0, .ref ao]) (c_X5_move_th hfl h) (cw_L_move_th C) 32 rfl rfl rfl (Nat.le_of_ble_eq_true rfl) dL_move_9 ⟨Nat.le_refl _, Nat.le_refl _⟩) (tableOf [(0, 14, 17, 13), (0, 14, 21, 15)]) ⟨0, 14, 25, 17⟩ (tableOf []) rfl (fun z hz => by
    rcases List.mem_cons.mp hz with rfl | hz
    · exact ⟨by decide, _, hk_L_move_13, T.2.2.2 2 0 (by decide) (by decide) (by decide)⟩
    rcases List.mem_cons.mp hz with rfl | hz
    · exact ⟨by decide, _, hk_L_move_15, T.2.2.2 2 1 (by decide) (by decide) (by decide)⟩
    exact nomatch hz) (by decide) (by decide) hk_L_move_17 (fun q => ?_)
  refine x_astore C (lv' := [(0, .ref (ad 32)), (1, .int x1), (2, .int x2), (3, .int x3), (4, .int x4), (5, .ref ao), (6, .ref q)]) dL_move_25 (by decide) rfl ?_
  refine x_iconst C (v := 3) dL_move_27 (by decide) ?_
  exact x_iret C dL_move_28
/-! the law's delete -/
def rm_L_delete (kc : Nat) : Room := rmf 9 161 kc
theorem cw_L_delete {p : Program} {s : State} {m : MethodId} {args : Array Value} {meth : Method} {c : Code} {D : va_G} {tys : List (ClassId × FieldType)} {R : Room} {kc : Nat} (C : XC p R s m args meth c cL_delete 5 (some .int) RL wsL_delete D tys) : CallW (rm_L_delete kc) s args RL RX5 29 yX5_delete cX5_delete 4 (some .int) wsX5_delete (rm_X5_delete 0) 0 0 2 := cwV 2 C.2.2.2.2.1 gL_delete_X5_delete rfl rfl rfl (by decide +kernel) ⟨Nat.le_of_ble_eq_true rfl, Nat.le_of_ble_eq_true rfl⟩
theorem cw_L_delete_th {p : Program} {s : State} {m : MethodId} {args : Array Value} {meth : Method} {c : Code} {D : va_G} {tys : List (ClassId × FieldType)} {R : Room} {kc : Nat} {q : Nat} (C : XC p R s m args meth c cL_delete 5 (some .int) RL wsL_delete D tys) : CallW (rm_L_delete kc) s args RL RX5 29 yX5_delete cX5_delete 4 (some .int) wsX5_delete (rm_X5_delete (q + 1)) 1 6 2 := cwV 2 C.2.2.2.2.1 gL_delete_X5_delete rfl rfl rfl (by decide +kernel) ⟨Nat.le_of_ble_eq_true rfl, Nat.le_of_ble_eq_true rfl⟩
theorem hk_L_delete_13 : Cond.classLink RL 13 (exN 0) ∈ wsL_delete := by decide +kernel
theorem hk_L_delete_17 : Cond.classLink RL 17 (exN 2) ∈ wsL_delete := by decide +kernel
set_option maxHeartbeats 4000000 in
set_option maxRecDepth 100000 in
theorem c_L_delete_ok {l : Launch} {D : va_G} {cI cZ cJ : ClassId} {ad : Nat → Nat} {S : St} {rest : va_W} {ao : Nat} {fo : Nat → Int64} {x1 x2 : Int32} {v : Int32} {S' : St} (hfl : l.stackTraces = false) (h : X5_delete S x1 x2 = some (0, v, S')) : ∀ sz, Met l yL_delete wsL_delete (rm_L_delete 0) (PY D (t3 cI cZ cJ) [.ref (ad 32), .int x1, .int x2, .ref ao] (wE cI cZ ad S (eo ad (ad 0) (ad 7) (oc ao cJ fo rest))) sz) (QI D (t3 cI cZ cJ) (wE cI cZ ad S (eo ad (ad 0) (ad 7) (oc ao cJ fo rest))) (wE cI cZ ad S' (eo ad (ad 0) (ad 7) (oc ao cJ (vp_updL fo 0 v.toInt64) rest))) sz 0) 0 0 (va_A (wE cI cZ ad S (eo ad (ad 0) (ad 7) (oc ao cJ fo rest))) sz) := by
  refine x_metH hfl (Qc := fun sz => QI D (t3 cI cZ cJ) (wE cI cZ ad S (eo ad (ad 0) (ad 7) (oc ao cJ fo rest))) (wE cI cZ ad S' (eo ad (ad 0) (ad 7) (oc ao cJ (vp_updL fo 0 v.toInt64) rest))) sz 0) RL rfl (by decide) rfl (Nat.le_of_ble_eq_true rfl) (fun p e s m args below meth c C T => ?_)
  refine x_aload_n C 3 dL_delete_0 rfl ?_
  refine x_iconst C (v := 0) dL_delete_1 (by decide) ?_
  refine x_aload_n C 0 dL_delete_2 rfl ?_
  refine x_iload_n C 1 dL_delete_3 rfl ?_
  refine x_iload_n C 2 dL_delete_4 rfl ?_
  refine x_ci0 (x_runV C (As := [.int x1, .int x2]) (rest := [.int 0, .ref ao]) (c_X5_delete_ok h) (cw_L_delete C) 32 rfl rfl rfl (Nat.le_of_ble_eq_true rfl) dL_delete_5 ⟨Nat.zero_le _, Nat.zero_le _⟩) ?_
  refine x_i2l C dL_delete_8 ?_
  refine x_last C 33 rfl (show ¬ ((0:Int32) < 0 ∨ 1 ≤ (0:Int32).toNatClampNeg) by decide) dL_delete_9 (x := v.toInt64) (w' := (wE cI cZ ad S' (eo ad (ad 0) (ad 7) (oc ao cJ (vp_updL fo 0 v.toInt64) rest)))) rfl ?_
  refine x_goto C (t := 21) dL_delete_10 (by decide) ?_
  refine x_iconst C (v := 0) dL_delete_21 (by decide) ?_
  exact x_iret C dL_delete_22
set_option maxHeartbeats 4000000 in
set_option maxRecDepth 100000 in
theorem c_L_delete_th0 {l : Launch} {D : va_G} {cI cZ cJ : ClassId} {ad : Nat → Nat} {S : St} {rest : va_W} {ao : Nat} {fo : Nat → Int64} {x1 x2 : Int32} {v : Int32} {S' : St} (hfl : l.stackTraces = false) (h : X5_delete S x1 x2 = some (1, v, S')) : ∀ sz, Met l yL_delete wsL_delete (rm_L_delete 1) (PY D (t3 cI cZ cJ) [.ref (ad 32), .int x1, .int x2, .ref ao] (wE cI cZ ad S (eo ad (ad 0) (ad 7) (oc ao cJ fo rest))) sz) (QI D (t3 cI cZ cJ) (wE cI cZ ad S (eo ad (ad 0) (ad 7) (oc ao cJ fo rest))) (wE cI cZ ad S' (eo ad (ad 0) (ad 7) (oc ao cJ fo rest))) sz 1) 1 6 (va_A (wE cI cZ ad S (eo ad (ad 0) (ad 7) (oc ao cJ fo rest))) sz) := by
  refine x_metH hfl (Qc := fun sz => QI D (t3 cI cZ cJ) (wE cI cZ ad S (eo ad (ad 0) (ad 7) (oc ao cJ fo rest))) (wE cI cZ ad S' (eo ad (ad 0) (ad 7) (oc ao cJ fo rest))) sz 1) RL rfl (by decide) rfl (Nat.le_of_ble_eq_true rfl) (fun p e s m args below meth c C T => ?_)
  refine x_aload_n C 3 dL_delete_0 rfl ?_
  refine x_iconst C (v := 0) dL_delete_1 (by decide) ?_
  refine x_aload_n C 0 dL_delete_2 rfl ?_
  refine x_iload_n C 1 dL_delete_3 rfl ?_
  refine x_iload_n C 2 dL_delete_4 rfl ?_
  refine x_catch C T (kk := 0) (x_runVX C T.2.2.1 (As := [.int x1, .int x2]) (rest := [.int 0, .ref ao]) (c_X5_delete_th hfl h) (cw_L_delete_th C) 32 rfl rfl rfl (Nat.le_of_ble_eq_true rfl) dL_delete_5 ⟨Nat.le_refl _, Nat.le_refl _⟩) (tableOf []) ⟨0, 10, 13, 13⟩ (tableOf [(0, 10, 17, 17)]) rfl (fun z hz => nomatch hz) (by decide) (by decide) hk_L_delete_13 (fun q => ?_)
  refine x_astore C (lv' := [(0, .ref (ad 32)), (1, .int x1), (2, .int x2), (3, .ref ao), (4, .ref q)]) dL_delete_13 (by decide) rfl ?_
  refine x_iconst C (v := 1) dL_delete_15 (by decide) ?_
  exact x_iret C dL_delete_16
set_option maxHeartbeats 4000000 in
set_option maxRecDepth 100000 in
theorem c_L_delete_th2 {l : Launch} {D : va_G} {cI cZ cJ : ClassId} {ad : Nat → Nat} {S : St} {rest : va_W} {ao : Nat} {fo : Nat → Int64} {x1 x2 : Int32} {v : Int32} {S' : St} (hfl : l.stackTraces = false) (h : X5_delete S x1 x2 = some (3, v, S')) : ∀ sz, Met l yL_delete wsL_delete (rm_L_delete 1) (PY D (t3 cI cZ cJ) [.ref (ad 32), .int x1, .int x2, .ref ao] (wE cI cZ ad S (eo ad (ad 0) (ad 7) (oc ao cJ fo rest))) sz) (QI D (t3 cI cZ cJ) (wE cI cZ ad S (eo ad (ad 0) (ad 7) (oc ao cJ fo rest))) (wE cI cZ ad S' (eo ad (ad 0) (ad 7) (oc ao cJ fo rest))) sz 2) 1 6 (va_A (wE cI cZ ad S (eo ad (ad 0) (ad 7) (oc ao cJ fo rest))) sz) := by
  refine x_metH hfl (Qc := fun sz => QI D (t3 cI cZ cJ) (wE cI cZ ad S (eo ad (ad 0) (ad 7) (oc ao cJ fo rest))) (wE cI cZ ad S' (eo ad (ad 0) (ad 7) (oc ao cJ fo rest))) sz 2) RL rfl (by decide) rfl (Nat.le_of_ble_eq_true rfl) (fun p e s m args below meth c C T => ?_)
  refine x_aload_n C 3 dL_delete_0 rfl ?_
  refine x_iconst C (v := 0) dL_delete_1 (by decide) ?_
  refine x_aload_n C 0 dL_delete_2 rfl ?_
  refine x_iload_n C 1 dL_delete_3 rfl ?_
  refine x_iload_n C 2 dL_delete_4 rfl ?_
  refine x_catch C T (kk := 2) (x_runVX C T.2.2.1 (As := [.int x1, .int x2]) (rest := [.int 0, .ref ao]) (c_X5_delete_th hfl h) (cw_L_delete_th C) 32 rfl rfl rfl (Nat.le_of_ble_eq_true rfl) dL_delete_5 ⟨Nat.le_refl _, Nat.le_refl _⟩) (tableOf [(0, 10, 13, 13)]) ⟨0, 10, 17, 17⟩ (tableOf []) rfl (fun z hz => by
    rcases List.mem_cons.mp hz with rfl | hz
    · exact ⟨by decide, _, hk_L_delete_13, T.2.2.2 2 0 (by decide) (by decide) (by decide)⟩
    exact nomatch hz) (by decide) (by decide) hk_L_delete_17 (fun q => ?_)
  refine x_astore C (lv' := [(0, .ref (ad 32)), (1, .int x1), (2, .int x2), (3, .ref ao), (4, .ref q)]) dL_delete_17 (by decide) rfl ?_
  refine x_iconst C (v := 2) dL_delete_19 (by decide) ?_
  exact x_iret C dL_delete_20
/-! the law's carry -/
def rm_L_carry (kc : Nat) : Room := rmf 9 161 kc
theorem cw_L_carry {p : Program} {s : State} {m : MethodId} {args : Array Value} {meth : Method} {c : Code} {D : va_G} {tys : List (ClassId × FieldType)} {R : Room} {kc : Nat} (C : XC p R s m args meth c cL_carry 5 (some .int) RL wsL_carry D tys) : CallW (rm_L_carry kc) s args RL RX5 33 yX5_carry cX5_carry 4 (some .boolean) wsX5_carry (rm_X5_carry 0) 0 0 2 := cwV 2 C.2.2.2.2.1 gL_carry_X5_carry rfl rfl rfl (by decide +kernel) ⟨Nat.le_of_ble_eq_true rfl, Nat.le_of_ble_eq_true rfl⟩
theorem cw_L_carry_th {p : Program} {s : State} {m : MethodId} {args : Array Value} {meth : Method} {c : Code} {D : va_G} {tys : List (ClassId × FieldType)} {R : Room} {kc : Nat} {q : Nat} (C : XC p R s m args meth c cL_carry 5 (some .int) RL wsL_carry D tys) : CallW (rm_L_carry kc) s args RL RX5 33 yX5_carry cX5_carry 4 (some .boolean) wsX5_carry (rm_X5_carry (q + 1)) 1 6 2 := cwV 2 C.2.2.2.2.1 gL_carry_X5_carry rfl rfl rfl (by decide +kernel) ⟨Nat.le_of_ble_eq_true rfl, Nat.le_of_ble_eq_true rfl⟩
theorem hk_L_carry_13 : Cond.classLink RL 13 (exN 0) ∈ wsL_carry := by decide +kernel
set_option maxHeartbeats 4000000 in
set_option maxRecDepth 100000 in
theorem c_L_carry_ok {l : Launch} {D : va_G} {cI cZ cJ : ClassId} {ad : Nat → Nat} {S : St} {rest : va_W} {ao : Nat} {fo : Nat → Int64} {x1 x2 : Int32} {v : Int32} {S' : St} (hfl : l.stackTraces = false) (h : X5_carry S x1 x2 = some (0, v, S')) : ∀ sz, Met l yL_carry wsL_carry (rm_L_carry 0) (PY D (t3 cI cZ cJ) [.ref (ad 32), .int x1, .int x2, .ref ao] (wE cI cZ ad S (eo ad (ad 0) (ad 7) (oc ao cJ fo rest))) sz) (QI D (t3 cI cZ cJ) (wE cI cZ ad S (eo ad (ad 0) (ad 7) (oc ao cJ fo rest))) (wE cI cZ ad S' (eo ad (ad 0) (ad 7) (oc ao cJ (vp_updL fo 0 (if v = 0 then 0 else 1)) rest))) sz 0) 0 0 (va_A (wE cI cZ ad S (eo ad (ad 0) (ad 7) (oc ao cJ fo rest))) sz) := by
  refine x_metH hfl (Qc := fun sz => QI D (t3 cI cZ cJ) (wE cI cZ ad S (eo ad (ad 0) (ad 7) (oc ao cJ fo rest))) (wE cI cZ ad S' (eo ad (ad 0) (ad 7) (oc ao cJ (vp_updL fo 0 (if v = 0 then 0 else 1)) rest))) sz 0) RL rfl (by decide) rfl (Nat.le_of_ble_eq_true rfl) (fun p e s m args below meth c C T => ?_)
  refine x_aload_n C 3 dL_carry_0 rfl ?_
  refine x_iconst C (v := 0) dL_carry_1 (by decide) ?_
  refine x_aload_n C 0 dL_carry_2 rfl ?_
  refine x_iload_n C 1 dL_carry_3 rfl ?_
  refine x_iload_n C 2 dL_carry_4 rfl ?_
  refine x_ci0 (x_runV C (As := [.int x1, .int x2]) (rest := [.int 0, .ref ao]) (c_X5_carry_ok h) (cw_L_carry C) 32 rfl rfl rfl (Nat.le_of_ble_eq_true rfl) dL_carry_5 ⟨Nat.zero_le _, Nat.zero_le _⟩) ?_
  refine x_if_eq C (t := 15) dL_carry_8 (by decide) (fun c1 => ?_) (fun c1 => ?_)
  · rw [if_pos c1]
    refine x_lconst C (v := 0) dL_carry_15 (by decide) ?_
    refine x_last C 33 rfl (show ¬ ((0:Int32) < 0 ∨ 1 ≤ (0:Int32).toNatClampNeg) by decide) dL_carry_16 (x := 0) (w' := (wE cI cZ ad S' (eo ad (ad 0) (ad 7) (oc ao cJ (vp_updL fo 0 0) rest)))) rfl ?_
    refine x_goto C (t := 24) dL_carry_17 (by decide) ?_
    refine x_iconst C (v := 0) dL_carry_24 (by decide) ?_
    exact x_iret C dL_carry_25
  · rw [if_neg c1]
    refine x_lconst C (v := 1) dL_carry_11 (by decide) ?_
    refine x_goto C (t := 16) dL_carry_12 (by decide) ?_
    refine x_last C 33 rfl (show ¬ ((0:Int32) < 0 ∨ 1 ≤ (0:Int32).toNatClampNeg) by decide) dL_carry_16 (x := 1) (w' := (wE cI cZ ad S' (eo ad (ad 0) (ad 7) (oc ao cJ (vp_updL fo 0 1) rest)))) rfl ?_
    refine x_goto C (t := 24) dL_carry_17 (by decide) ?_
    refine x_iconst C (v := 0) dL_carry_24 (by decide) ?_
    exact x_iret C dL_carry_25
set_option maxHeartbeats 4000000 in
set_option maxRecDepth 100000 in
theorem c_L_carry_th0 {l : Launch} {D : va_G} {cI cZ cJ : ClassId} {ad : Nat → Nat} {S : St} {rest : va_W} {ao : Nat} {fo : Nat → Int64} {x1 x2 : Int32} {v : Int32} {S' : St} (hfl : l.stackTraces = false) (h : X5_carry S x1 x2 = some (1, v, S')) : ∀ sz, Met l yL_carry wsL_carry (rm_L_carry 1) (PY D (t3 cI cZ cJ) [.ref (ad 32), .int x1, .int x2, .ref ao] (wE cI cZ ad S (eo ad (ad 0) (ad 7) (oc ao cJ fo rest))) sz) (QI D (t3 cI cZ cJ) (wE cI cZ ad S (eo ad (ad 0) (ad 7) (oc ao cJ fo rest))) (wE cI cZ ad S' (eo ad (ad 0) (ad 7) (oc ao cJ fo rest))) sz 1) 1 6 (va_A (wE cI cZ ad S (eo ad (ad 0) (ad 7) (oc ao cJ fo rest))) sz) := by
  refine x_metH hfl (Qc := fun sz => QI D (t3 cI cZ cJ) (wE cI cZ ad S (eo ad (ad 0) (ad 7) (oc ao cJ fo rest))) (wE cI cZ ad S' (eo ad (ad 0) (ad 7) (oc ao cJ fo rest))) sz 1) RL rfl (by decide) rfl (Nat.le_of_ble_eq_true rfl) (fun p e s m args below meth c C T => ?_)
  refine x_aload_n C 3 dL_carry_0 rfl ?_
  refine x_iconst C (v := 0) dL_carry_1 (by decide) ?_
  refine x_aload_n C 0 dL_carry_2 rfl ?_
  refine x_iload_n C 1 dL_carry_3 rfl ?_
  refine x_iload_n C 2 dL_carry_4 rfl ?_
  refine x_catch C T (kk := 0) (x_runVX C T.2.2.1 (As := [.int x1, .int x2]) (rest := [.int 0, .ref ao]) (c_X5_carry_th hfl h) (cw_L_carry_th C) 32 rfl rfl rfl (Nat.le_of_ble_eq_true rfl) dL_carry_5 ⟨Nat.le_refl _, Nat.le_refl _⟩) (tableOf []) ⟨0, 17, 20, 13⟩ (tableOf []) rfl (fun z hz => nomatch hz) (by decide) (by decide) hk_L_carry_13 (fun q => ?_)
  refine x_astore C (lv' := [(0, .ref (ad 32)), (1, .int x1), (2, .int x2), (3, .ref ao), (4, .ref q)]) dL_carry_20 (by decide) rfl ?_
  refine x_iconst C (v := 1) dL_carry_22 (by decide) ?_
  exact x_iret C dL_carry_23
/-! the law's timeOf -/
def rm_L_timeOf (kc : Nat) : Room := rmf 8 124 kc
theorem cw_L_timeOf {p : Program} {s : State} {m : MethodId} {args : Array Value} {meth : Method} {c : Code} {D : va_G} {tys : List (ClassId × FieldType)} {R : Room} {kc : Nat} (C : XC p R s m args meth c cL_timeOf 4 (some .int) RL wsL_timeOf D tys) : CallW (rm_L_timeOf kc) s args RL RX5 37 yX5_timeOf cX5_timeOf 2 (some .int) wsX5_timeOf (rm_X5_timeOf 0) 0 0 1 := cwV 1 C.2.2.2.2.1 gL_timeOf_X5_timeOf rfl rfl rfl (by decide +kernel) ⟨Nat.le_of_ble_eq_true rfl, Nat.le_of_ble_eq_true rfl⟩
theorem cw_L_timeOf_th {p : Program} {s : State} {m : MethodId} {args : Array Value} {meth : Method} {c : Code} {D : va_G} {tys : List (ClassId × FieldType)} {R : Room} {kc : Nat} {q : Nat} (C : XC p R s m args meth c cL_timeOf 4 (some .int) RL wsL_timeOf D tys) : CallW (rm_L_timeOf kc) s args RL RX5 37 yX5_timeOf cX5_timeOf 2 (some .int) wsX5_timeOf (rm_X5_timeOf (q + 1)) 1 6 1 := cwV 1 C.2.2.2.2.1 gL_timeOf_X5_timeOf rfl rfl rfl (by decide +kernel) ⟨Nat.le_of_ble_eq_true rfl, Nat.le_of_ble_eq_true rfl⟩
theorem hk_L_timeOf_13 : Cond.classLink RL 13 (exN 0) ∈ wsL_timeOf := by decide +kernel
set_option maxHeartbeats 4000000 in
set_option maxRecDepth 100000 in
theorem c_L_timeOf_ok {l : Launch} {D : va_G} {cI cZ cJ : ClassId} {ad : Nat → Nat} {S : St} {rest : va_W} {ao : Nat} {fo : Nat → Int64} {x1 : Int32} {v : Int32} (hfl : l.stackTraces = false) (h : X5_timeOf S x1 = some (0, v)) : ∀ sz, Met l yL_timeOf wsL_timeOf (rm_L_timeOf 0) (PY D (t3 cI cZ cJ) [.ref (ad 32), .int x1, .ref ao] (wE cI cZ ad S (eo ad (ad 0) (ad 7) (oc ao cJ fo rest))) sz) (QI D (t3 cI cZ cJ) (wE cI cZ ad S (eo ad (ad 0) (ad 7) (oc ao cJ fo rest))) (wE cI cZ ad S (eo ad (ad 0) (ad 7) (oc ao cJ (vp_updL fo 0 v.toInt64) rest))) sz 0) 0 0 (va_A (wE cI cZ ad S (eo ad (ad 0) (ad 7) (oc ao cJ fo rest))) sz) := by
  refine x_metH hfl (Qc := fun sz => QI D (t3 cI cZ cJ) (wE cI cZ ad S (eo ad (ad 0) (ad 7) (oc ao cJ fo rest))) (wE cI cZ ad S (eo ad (ad 0) (ad 7) (oc ao cJ (vp_updL fo 0 v.toInt64) rest))) sz 0) RL rfl (by decide) rfl (Nat.le_of_ble_eq_true rfl) (fun p e s m args below meth c C T => ?_)
  refine x_aload_n C 2 dL_timeOf_0 rfl ?_
  refine x_iconst C (v := 0) dL_timeOf_1 (by decide) ?_
  refine x_aload_n C 0 dL_timeOf_2 rfl ?_
  refine x_iload_n C 1 dL_timeOf_3 rfl ?_
  refine x_ci0 (x_runV C (As := [.int x1]) (rest := [.int 0, .ref ao]) (c_X5_timeOf_ok h) (cw_L_timeOf C) 32 rfl rfl rfl (Nat.le_of_ble_eq_true rfl) dL_timeOf_4 ⟨Nat.zero_le _, Nat.zero_le _⟩) ?_
  refine x_i2l C dL_timeOf_7 ?_
  refine x_last C 33 rfl (show ¬ ((0:Int32) < 0 ∨ 1 ≤ (0:Int32).toNatClampNeg) by decide) dL_timeOf_8 (x := v.toInt64) (w' := (wE cI cZ ad S (eo ad (ad 0) (ad 7) (oc ao cJ (vp_updL fo 0 v.toInt64) rest)))) rfl ?_
  refine x_goto C (t := 15) dL_timeOf_9 (by decide) ?_
  refine x_iconst C (v := 0) dL_timeOf_15 (by decide) ?_
  exact x_iret C dL_timeOf_16
set_option maxHeartbeats 4000000 in
set_option maxRecDepth 100000 in
theorem c_L_timeOf_th0 {l : Launch} {D : va_G} {cI cZ cJ : ClassId} {ad : Nat → Nat} {S : St} {rest : va_W} {ao : Nat} {fo : Nat → Int64} {x1 : Int32} {v : Int32} (hfl : l.stackTraces = false) (h : X5_timeOf S x1 = some (1, v)) : ∀ sz, Met l yL_timeOf wsL_timeOf (rm_L_timeOf 1) (PY D (t3 cI cZ cJ) [.ref (ad 32), .int x1, .ref ao] (wE cI cZ ad S (eo ad (ad 0) (ad 7) (oc ao cJ fo rest))) sz) (QI D (t3 cI cZ cJ) (wE cI cZ ad S (eo ad (ad 0) (ad 7) (oc ao cJ fo rest))) (wE cI cZ ad S (eo ad (ad 0) (ad 7) (oc ao cJ fo rest))) sz 1) 1 6 (va_A (wE cI cZ ad S (eo ad (ad 0) (ad 7) (oc ao cJ fo rest))) sz) := by
  refine x_metH hfl (Qc := fun sz => QI D (t3 cI cZ cJ) (wE cI cZ ad S (eo ad (ad 0) (ad 7) (oc ao cJ fo rest))) (wE cI cZ ad S (eo ad (ad 0) (ad 7) (oc ao cJ fo rest))) sz 1) RL rfl (by decide) rfl (Nat.le_of_ble_eq_true rfl) (fun p e s m args below meth c C T => ?_)
  refine x_aload_n C 2 dL_timeOf_0 rfl ?_
  refine x_iconst C (v := 0) dL_timeOf_1 (by decide) ?_
  refine x_aload_n C 0 dL_timeOf_2 rfl ?_
  refine x_iload_n C 1 dL_timeOf_3 rfl ?_
  refine x_catch C T (kk := 0) (x_runVX C T.2.2.1 (As := [.int x1]) (rest := [.int 0, .ref ao]) (c_X5_timeOf_th hfl h) (cw_L_timeOf_th C) 32 rfl rfl rfl (Nat.le_of_ble_eq_true rfl) dL_timeOf_4 ⟨Nat.le_refl _, Nat.le_refl _⟩) (tableOf []) ⟨0, 9, 12, 13⟩ (tableOf []) rfl (fun z hz => nomatch hz) (by decide) (by decide) hk_L_timeOf_13 (fun q => ?_)
  refine x_astore_n C (lv' := [(0, .ref (ad 32)), (1, .int x1), (2, .ref ao), (3, .ref q)]) dL_timeOf_12 (by decide) rfl ?_
  refine x_iconst C (v := 1) dL_timeOf_13 (by decide) ?_
  exact x_iret C dL_timeOf_14
/-! the law's entries -/
def rm_L_entries (kc : Nat) : Room := rmf 9 145 kc
theorem cw_L_entries {p : Program} {s : State} {m : MethodId} {args : Array Value} {meth : Method} {c : Code} {D : va_G} {tys : List (ClassId × FieldType)} {R : Room} {kc : Nat} (C : XC p R s m args meth c cL_entries 4 (some .int) RL wsL_entries D tys) : CallW (rm_L_entries kc) s args RL RX5 41 yX5_entries cX5_entries 2 (some .int) wsX5_entries (rm_X5_entries 0) 0 0 1 := cwV 1 C.2.2.2.2.1 gL_entries_X5_entries rfl rfl rfl (by decide +kernel) ⟨Nat.le_of_ble_eq_true rfl, Nat.le_of_ble_eq_true rfl⟩
theorem cw_L_entries_th {p : Program} {s : State} {m : MethodId} {args : Array Value} {meth : Method} {c : Code} {D : va_G} {tys : List (ClassId × FieldType)} {R : Room} {kc : Nat} {q : Nat} (C : XC p R s m args meth c cL_entries 4 (some .int) RL wsL_entries D tys) : CallW (rm_L_entries kc) s args RL RX5 41 yX5_entries cX5_entries 2 (some .int) wsX5_entries (rm_X5_entries (q + 1)) 1 6 1 := cwV 1 C.2.2.2.2.1 gL_entries_X5_entries rfl rfl rfl (by decide +kernel) ⟨Nat.le_of_ble_eq_true rfl, Nat.le_of_ble_eq_true rfl⟩
theorem hk_L_entries_13 : Cond.classLink RL 13 (exN 0) ∈ wsL_entries := by decide +kernel
set_option maxHeartbeats 4000000 in
set_option maxRecDepth 100000 in
theorem c_L_entries_ok {l : Launch} {D : va_G} {cI cZ cJ : ClassId} {ad : Nat → Nat} {S : St} {rest : va_W} {ao : Nat} {fo : Nat → Int64} {x1 : Int32} {v : Int32} (hfl : l.stackTraces = false) (h : X5_entries S x1 = some (0, v)) : ∀ sz, Met l yL_entries wsL_entries (rm_L_entries 0) (PY D (t3 cI cZ cJ) [.ref (ad 32), .int x1, .ref ao] (wE cI cZ ad S (eo ad (ad 0) (ad 7) (oc ao cJ fo rest))) sz) (QI D (t3 cI cZ cJ) (wE cI cZ ad S (eo ad (ad 0) (ad 7) (oc ao cJ fo rest))) (wE cI cZ ad S (eo ad (ad 0) (ad 7) (oc ao cJ (vp_updL fo 0 v.toInt64) rest))) sz 0) 0 0 (va_A (wE cI cZ ad S (eo ad (ad 0) (ad 7) (oc ao cJ fo rest))) sz) := by
  refine x_metH hfl (Qc := fun sz => QI D (t3 cI cZ cJ) (wE cI cZ ad S (eo ad (ad 0) (ad 7) (oc ao cJ fo rest))) (wE cI cZ ad S (eo ad (ad 0) (ad 7) (oc ao cJ (vp_updL fo 0 v.toInt64) rest))) sz 0) RL rfl (by decide) rfl (Nat.le_of_ble_eq_true rfl) (fun p e s m args below meth c C T => ?_)
  refine x_aload_n C 2 dL_entries_0 rfl ?_
  refine x_iconst C (v := 0) dL_entries_1 (by decide) ?_
  refine x_aload_n C 0 dL_entries_2 rfl ?_
  refine x_iload_n C 1 dL_entries_3 rfl ?_
  refine x_ci0 (x_runV C (As := [.int x1]) (rest := [.int 0, .ref ao]) (c_X5_entries_ok h) (cw_L_entries C) 32 rfl rfl rfl (Nat.le_of_ble_eq_true rfl) dL_entries_4 ⟨Nat.zero_le _, Nat.zero_le _⟩) ?_
  refine x_i2l C dL_entries_7 ?_
  refine x_last C 33 rfl (show ¬ ((0:Int32) < 0 ∨ 1 ≤ (0:Int32).toNatClampNeg) by decide) dL_entries_8 (x := v.toInt64) (w' := (wE cI cZ ad S (eo ad (ad 0) (ad 7) (oc ao cJ (vp_updL fo 0 v.toInt64) rest)))) rfl ?_
  refine x_goto C (t := 15) dL_entries_9 (by decide) ?_
  refine x_iconst C (v := 0) dL_entries_15 (by decide) ?_
  exact x_iret C dL_entries_16
set_option maxHeartbeats 4000000 in
set_option maxRecDepth 100000 in
theorem c_L_entries_th0 {l : Launch} {D : va_G} {cI cZ cJ : ClassId} {ad : Nat → Nat} {S : St} {rest : va_W} {ao : Nat} {fo : Nat → Int64} {x1 : Int32} {v : Int32} (hfl : l.stackTraces = false) (h : X5_entries S x1 = some (1, v)) : ∀ sz, Met l yL_entries wsL_entries (rm_L_entries 1) (PY D (t3 cI cZ cJ) [.ref (ad 32), .int x1, .ref ao] (wE cI cZ ad S (eo ad (ad 0) (ad 7) (oc ao cJ fo rest))) sz) (QI D (t3 cI cZ cJ) (wE cI cZ ad S (eo ad (ad 0) (ad 7) (oc ao cJ fo rest))) (wE cI cZ ad S (eo ad (ad 0) (ad 7) (oc ao cJ fo rest))) sz 1) 1 6 (va_A (wE cI cZ ad S (eo ad (ad 0) (ad 7) (oc ao cJ fo rest))) sz) := by
  refine x_metH hfl (Qc := fun sz => QI D (t3 cI cZ cJ) (wE cI cZ ad S (eo ad (ad 0) (ad 7) (oc ao cJ fo rest))) (wE cI cZ ad S (eo ad (ad 0) (ad 7) (oc ao cJ fo rest))) sz 1) RL rfl (by decide) rfl (Nat.le_of_ble_eq_true rfl) (fun p e s m args below meth c C T => ?_)
  refine x_aload_n C 2 dL_entries_0 rfl ?_
  refine x_iconst C (v := 0) dL_entries_1 (by decide) ?_
  refine x_aload_n C 0 dL_entries_2 rfl ?_
  refine x_iload_n C 1 dL_entries_3 rfl ?_
  refine x_catch C T (kk := 0) (x_runVX C T.2.2.1 (As := [.int x1]) (rest := [.int 0, .ref ao]) (c_X5_entries_th hfl h) (cw_L_entries_th C) 32 rfl rfl rfl (Nat.le_of_ble_eq_true rfl) dL_entries_4 ⟨Nat.le_refl _, Nat.le_refl _⟩) (tableOf []) ⟨0, 9, 12, 13⟩ (tableOf []) rfl (fun z hz => nomatch hz) (by decide) (by decide) hk_L_entries_13 (fun q => ?_)
  refine x_astore_n C (lv' := [(0, .ref (ad 32)), (1, .int x1), (2, .ref ao), (3, .ref q)]) dL_entries_12 (by decide) rfl ?_
  refine x_iconst C (v := 1) dL_entries_13 (by decide) ?_
  exact x_iret C dL_entries_14
/-! the law's isThere -/
def rm_L_isThere (kc : Nat) : Room := rmf 9 146 kc
theorem cw_L_isThere {p : Program} {s : State} {m : MethodId} {args : Array Value} {meth : Method} {c : Code} {D : va_G} {tys : List (ClassId × FieldType)} {R : Room} {kc : Nat} (C : XC p R s m args meth c cL_isThere 5 (some .int) RL wsL_isThere D tys) : CallW (rm_L_isThere kc) s args RL RX5 44 yX5_isThere cX5_isThere 3 (some .boolean) wsX5_isThere (rm_X5_isThere 0) 0 0 2 := cwV 2 C.2.2.2.2.1 gL_isThere_X5_isThere rfl rfl rfl (by decide +kernel) ⟨Nat.le_of_ble_eq_true rfl, Nat.le_of_ble_eq_true rfl⟩
theorem cw_L_isThere_th {p : Program} {s : State} {m : MethodId} {args : Array Value} {meth : Method} {c : Code} {D : va_G} {tys : List (ClassId × FieldType)} {R : Room} {kc : Nat} {q : Nat} (C : XC p R s m args meth c cL_isThere 5 (some .int) RL wsL_isThere D tys) : CallW (rm_L_isThere kc) s args RL RX5 44 yX5_isThere cX5_isThere 3 (some .boolean) wsX5_isThere (rm_X5_isThere (q + 1)) 1 6 2 := cwV 2 C.2.2.2.2.1 gL_isThere_X5_isThere rfl rfl rfl (by decide +kernel) ⟨Nat.le_of_ble_eq_true rfl, Nat.le_of_ble_eq_true rfl⟩
theorem hk_L_isThere_13 : Cond.classLink RL 13 (exN 0) ∈ wsL_isThere := by decide +kernel
set_option maxHeartbeats 4000000 in
set_option maxRecDepth 100000 in
theorem c_L_isThere_ok {l : Launch} {D : va_G} {cI cZ cJ : ClassId} {ad : Nat → Nat} {S : St} {rest : va_W} {ao : Nat} {fo : Nat → Int64} {x1 x2 : Int32} {v : Int32} (hfl : l.stackTraces = false) (h : X5_isThere S x1 x2 = some (0, v)) : ∀ sz, Met l yL_isThere wsL_isThere (rm_L_isThere 0) (PY D (t3 cI cZ cJ) [.ref (ad 32), .int x1, .int x2, .ref ao] (wE cI cZ ad S (eo ad (ad 0) (ad 7) (oc ao cJ fo rest))) sz) (QI D (t3 cI cZ cJ) (wE cI cZ ad S (eo ad (ad 0) (ad 7) (oc ao cJ fo rest))) (wE cI cZ ad S (eo ad (ad 0) (ad 7) (oc ao cJ (vp_updL fo 0 (if v = 0 then 0 else 1)) rest))) sz 0) 0 0 (va_A (wE cI cZ ad S (eo ad (ad 0) (ad 7) (oc ao cJ fo rest))) sz) := by
  refine x_metH hfl (Qc := fun sz => QI D (t3 cI cZ cJ) (wE cI cZ ad S (eo ad (ad 0) (ad 7) (oc ao cJ fo rest))) (wE cI cZ ad S (eo ad (ad 0) (ad 7) (oc ao cJ (vp_updL fo 0 (if v = 0 then 0 else 1)) rest))) sz 0) RL rfl (by decide) rfl (Nat.le_of_ble_eq_true rfl) (fun p e s m args below meth c C T => ?_)
  refine x_aload_n C 3 dL_isThere_0 rfl ?_
  refine x_iconst C (v := 0) dL_isThere_1 (by decide) ?_
  refine x_aload_n C 0 dL_isThere_2 rfl ?_
  refine x_iload_n C 1 dL_isThere_3 rfl ?_
  refine x_iload_n C 2 dL_isThere_4 rfl ?_
  refine x_ci0 (x_runV C (As := [.int x1, .int x2]) (rest := [.int 0, .ref ao]) (c_X5_isThere_ok h) (cw_L_isThere C) 32 rfl rfl rfl (Nat.le_of_ble_eq_true rfl) dL_isThere_5 ⟨Nat.zero_le _, Nat.zero_le _⟩) ?_
  refine x_if_eq C (t := 15) dL_isThere_8 (by decide) (fun c1 => ?_) (fun c1 => ?_)
  · rw [if_pos c1]
    refine x_lconst C (v := 0) dL_isThere_15 (by decide) ?_
    refine x_last C 33 rfl (show ¬ ((0:Int32) < 0 ∨ 1 ≤ (0:Int32).toNatClampNeg) by decide) dL_isThere_16 (x := 0) (w' := (wE cI cZ ad S (eo ad (ad 0) (ad 7) (oc ao cJ (vp_updL fo 0 0) rest)))) rfl ?_
    refine x_goto C (t := 24) dL_isThere_17 (by decide) ?_
    refine x_iconst C (v := 0) dL_isThere_24 (by decide) ?_
    exact x_iret C dL_isThere_25
  · rw [if_neg c1]
    refine x_lconst C (v := 1) dL_isThere_11 (by decide) ?_
    refine x_goto C (t := 16) dL_isThere_12 (by decide) ?_
    refine x_last C 33 rfl (show ¬ ((0:Int32) < 0 ∨ 1 ≤ (0:Int32).toNatClampNeg) by decide) dL_isThere_16 (x := 1) (w' := (wE cI cZ ad S (eo ad (ad 0) (ad 7) (oc ao cJ (vp_updL fo 0 1) rest)))) rfl ?_
    refine x_goto C (t := 24) dL_isThere_17 (by decide) ?_
    refine x_iconst C (v := 0) dL_isThere_24 (by decide) ?_
    exact x_iret C dL_isThere_25
set_option maxHeartbeats 4000000 in
set_option maxRecDepth 100000 in
theorem c_L_isThere_th0 {l : Launch} {D : va_G} {cI cZ cJ : ClassId} {ad : Nat → Nat} {S : St} {rest : va_W} {ao : Nat} {fo : Nat → Int64} {x1 x2 : Int32} {v : Int32} (hfl : l.stackTraces = false) (h : X5_isThere S x1 x2 = some (1, v)) : ∀ sz, Met l yL_isThere wsL_isThere (rm_L_isThere 1) (PY D (t3 cI cZ cJ) [.ref (ad 32), .int x1, .int x2, .ref ao] (wE cI cZ ad S (eo ad (ad 0) (ad 7) (oc ao cJ fo rest))) sz) (QI D (t3 cI cZ cJ) (wE cI cZ ad S (eo ad (ad 0) (ad 7) (oc ao cJ fo rest))) (wE cI cZ ad S (eo ad (ad 0) (ad 7) (oc ao cJ fo rest))) sz 1) 1 6 (va_A (wE cI cZ ad S (eo ad (ad 0) (ad 7) (oc ao cJ fo rest))) sz) := by
  refine x_metH hfl (Qc := fun sz => QI D (t3 cI cZ cJ) (wE cI cZ ad S (eo ad (ad 0) (ad 7) (oc ao cJ fo rest))) (wE cI cZ ad S (eo ad (ad 0) (ad 7) (oc ao cJ fo rest))) sz 1) RL rfl (by decide) rfl (Nat.le_of_ble_eq_true rfl) (fun p e s m args below meth c C T => ?_)
  refine x_aload_n C 3 dL_isThere_0 rfl ?_
  refine x_iconst C (v := 0) dL_isThere_1 (by decide) ?_
  refine x_aload_n C 0 dL_isThere_2 rfl ?_
  refine x_iload_n C 1 dL_isThere_3 rfl ?_
  refine x_iload_n C 2 dL_isThere_4 rfl ?_
  refine x_catch C T (kk := 0) (x_runVX C T.2.2.1 (As := [.int x1, .int x2]) (rest := [.int 0, .ref ao]) (c_X5_isThere_th hfl h) (cw_L_isThere_th C) 32 rfl rfl rfl (Nat.le_of_ble_eq_true rfl) dL_isThere_5 ⟨Nat.le_refl _, Nat.le_refl _⟩) (tableOf []) ⟨0, 17, 20, 13⟩ (tableOf []) rfl (fun z hz => nomatch hz) (by decide) (by decide) hk_L_isThere_13 (fun q => ?_)
  refine x_astore C (lv' := [(0, .ref (ad 32)), (1, .int x1), (2, .int x2), (3, .ref ao), (4, .ref q)]) dL_isThere_20 (by decide) rfl ?_
  refine x_iconst C (v := 1) dL_isThere_22 (by decide) ?_
  exact x_iret C dL_isThere_23
/-! the law's parentOf -/
def rm_L_parentOf (kc : Nat) : Room := rmf 9 147 kc
theorem cw_L_parentOf {p : Program} {s : State} {m : MethodId} {args : Array Value} {meth : Method} {c : Code} {D : va_G} {tys : List (ClassId × FieldType)} {R : Room} {kc : Nat} (C : XC p R s m args meth c cL_parentOf 5 (some .int) RL wsL_parentOf D tys) : CallW (rm_L_parentOf kc) s args RL RX5 47 yX5_parentOf cX5_parentOf 4 (some .int) wsX5_parentOf (rm_X5_parentOf 0) 0 0 2 := cwV 2 C.2.2.2.2.1 gL_parentOf_X5_parentOf rfl rfl rfl (by decide +kernel) ⟨Nat.le_of_ble_eq_true rfl, Nat.le_of_ble_eq_true rfl⟩
theorem cw_L_parentOf_th {p : Program} {s : State} {m : MethodId} {args : Array Value} {meth : Method} {c : Code} {D : va_G} {tys : List (ClassId × FieldType)} {R : Room} {kc : Nat} {q : Nat} (C : XC p R s m args meth c cL_parentOf 5 (some .int) RL wsL_parentOf D tys) : CallW (rm_L_parentOf kc) s args RL RX5 47 yX5_parentOf cX5_parentOf 4 (some .int) wsX5_parentOf (rm_X5_parentOf (q + 1)) 1 6 2 := cwV 2 C.2.2.2.2.1 gL_parentOf_X5_parentOf rfl rfl rfl (by decide +kernel) ⟨Nat.le_of_ble_eq_true rfl, Nat.le_of_ble_eq_true rfl⟩
theorem hk_L_parentOf_13 : Cond.classLink RL 13 (exN 0) ∈ wsL_parentOf := by decide +kernel
set_option maxHeartbeats 4000000 in
set_option maxRecDepth 100000 in
theorem c_L_parentOf_ok {l : Launch} {D : va_G} {cI cZ cJ : ClassId} {ad : Nat → Nat} {S : St} {rest : va_W} {ao : Nat} {fo : Nat → Int64} {x1 x2 : Int32} {v : Int32} (hfl : l.stackTraces = false) (h : X5_parentOf S x1 x2 = some (0, v)) : ∀ sz, Met l yL_parentOf wsL_parentOf (rm_L_parentOf 0) (PY D (t3 cI cZ cJ) [.ref (ad 32), .int x1, .int x2, .ref ao] (wE cI cZ ad S (eo ad (ad 0) (ad 7) (oc ao cJ fo rest))) sz) (QI D (t3 cI cZ cJ) (wE cI cZ ad S (eo ad (ad 0) (ad 7) (oc ao cJ fo rest))) (wE cI cZ ad S (eo ad (ad 0) (ad 7) (oc ao cJ (vp_updL fo 0 v.toInt64) rest))) sz 0) 0 0 (va_A (wE cI cZ ad S (eo ad (ad 0) (ad 7) (oc ao cJ fo rest))) sz) := by
  refine x_metH hfl (Qc := fun sz => QI D (t3 cI cZ cJ) (wE cI cZ ad S (eo ad (ad 0) (ad 7) (oc ao cJ fo rest))) (wE cI cZ ad S (eo ad (ad 0) (ad 7) (oc ao cJ (vp_updL fo 0 v.toInt64) rest))) sz 0) RL rfl (by decide) rfl (Nat.le_of_ble_eq_true rfl) (fun p e s m args below meth c C T => ?_)
  refine x_aload_n C 3 dL_parentOf_0 rfl ?_
  refine x_iconst C (v := 0) dL_parentOf_1 (by decide) ?_
  refine x_aload_n C 0 dL_parentOf_2 rfl ?_
  refine x_iload_n C 1 dL_parentOf_3 rfl ?_
  refine x_iload_n C 2 dL_parentOf_4 rfl ?_
  refine x_ci0 (x_runV C (As := [.int x1, .int x2]) (rest := [.int 0, .ref ao]) (c_X5_parentOf_ok h) (cw_L_parentOf C) 32 rfl rfl rfl (Nat.le_of_ble_eq_true rfl) dL_parentOf_5 ⟨Nat.zero_le _, Nat.zero_le _⟩) ?_
  refine x_i2l C dL_parentOf_8 ?_
  refine x_last C 33 rfl (show ¬ ((0:Int32) < 0 ∨ 1 ≤ (0:Int32).toNatClampNeg) by decide) dL_parentOf_9 (x := v.toInt64) (w' := (wE cI cZ ad S (eo ad (ad 0) (ad 7) (oc ao cJ (vp_updL fo 0 v.toInt64) rest)))) rfl ?_
  refine x_goto C (t := 17) dL_parentOf_10 (by decide) ?_
  refine x_iconst C (v := 0) dL_parentOf_17 (by decide) ?_
  exact x_iret C dL_parentOf_18
set_option maxHeartbeats 4000000 in
set_option maxRecDepth 100000 in
theorem c_L_parentOf_th0 {l : Launch} {D : va_G} {cI cZ cJ : ClassId} {ad : Nat → Nat} {S : St} {rest : va_W} {ao : Nat} {fo : Nat → Int64} {x1 x2 : Int32} {v : Int32} (hfl : l.stackTraces = false) (h : X5_parentOf S x1 x2 = some (1, v)) : ∀ sz, Met l yL_parentOf wsL_parentOf (rm_L_parentOf 1) (PY D (t3 cI cZ cJ) [.ref (ad 32), .int x1, .int x2, .ref ao] (wE cI cZ ad S (eo ad (ad 0) (ad 7) (oc ao cJ fo rest))) sz) (QI D (t3 cI cZ cJ) (wE cI cZ ad S (eo ad (ad 0) (ad 7) (oc ao cJ fo rest))) (wE cI cZ ad S (eo ad (ad 0) (ad 7) (oc ao cJ fo rest))) sz 1) 1 6 (va_A (wE cI cZ ad S (eo ad (ad 0) (ad 7) (oc ao cJ fo rest))) sz) := by
  refine x_metH hfl (Qc := fun sz => QI D (t3 cI cZ cJ) (wE cI cZ ad S (eo ad (ad 0) (ad 7) (oc ao cJ fo rest))) (wE cI cZ ad S (eo ad (ad 0) (ad 7) (oc ao cJ fo rest))) sz 1) RL rfl (by decide) rfl (Nat.le_of_ble_eq_true rfl) (fun p e s m args below meth c C T => ?_)
  refine x_aload_n C 3 dL_parentOf_0 rfl ?_
  refine x_iconst C (v := 0) dL_parentOf_1 (by decide) ?_
  refine x_aload_n C 0 dL_parentOf_2 rfl ?_
  refine x_iload_n C 1 dL_parentOf_3 rfl ?_
  refine x_iload_n C 2 dL_parentOf_4 rfl ?_
  refine x_catch C T (kk := 0) (x_runVX C T.2.2.1 (As := [.int x1, .int x2]) (rest := [.int 0, .ref ao]) (c_X5_parentOf_th hfl h) (cw_L_parentOf_th C) 32 rfl rfl rfl (Nat.le_of_ble_eq_true rfl) dL_parentOf_5 ⟨Nat.le_refl _, Nat.le_refl _⟩) (tableOf []) ⟨0, 10, 13, 13⟩ (tableOf []) rfl (fun z hz => nomatch hz) (by decide) (by decide) hk_L_parentOf_13 (fun q => ?_)
  refine x_astore C (lv' := [(0, .ref (ad 32)), (1, .int x1), (2, .int x2), (3, .ref ao), (4, .ref q)]) dL_parentOf_13 (by decide) rfl ?_
  refine x_iconst C (v := 1) dL_parentOf_15 (by decide) ?_
  exact x_iret C dL_parentOf_16
/-! the law's labelOf -/
def rm_L_labelOf (kc : Nat) : Room := rmf 9 147 kc
theorem cw_L_labelOf {p : Program} {s : State} {m : MethodId} {args : Array Value} {meth : Method} {c : Code} {D : va_G} {tys : List (ClassId × FieldType)} {R : Room} {kc : Nat} (C : XC p R s m args meth c cL_labelOf 5 (some .int) RL wsL_labelOf D tys) : CallW (rm_L_labelOf kc) s args RL RX5 50 yX5_labelOf cX5_labelOf 4 (some .int) wsX5_labelOf (rm_X5_labelOf 0) 0 0 2 := cwV 2 C.2.2.2.2.1 gL_labelOf_X5_labelOf rfl rfl rfl (by decide +kernel) ⟨Nat.le_of_ble_eq_true rfl, Nat.le_of_ble_eq_true rfl⟩
theorem cw_L_labelOf_th {p : Program} {s : State} {m : MethodId} {args : Array Value} {meth : Method} {c : Code} {D : va_G} {tys : List (ClassId × FieldType)} {R : Room} {kc : Nat} {q : Nat} (C : XC p R s m args meth c cL_labelOf 5 (some .int) RL wsL_labelOf D tys) : CallW (rm_L_labelOf kc) s args RL RX5 50 yX5_labelOf cX5_labelOf 4 (some .int) wsX5_labelOf (rm_X5_labelOf (q + 1)) 1 6 2 := cwV 2 C.2.2.2.2.1 gL_labelOf_X5_labelOf rfl rfl rfl (by decide +kernel) ⟨Nat.le_of_ble_eq_true rfl, Nat.le_of_ble_eq_true rfl⟩
theorem hk_L_labelOf_13 : Cond.classLink RL 13 (exN 0) ∈ wsL_labelOf := by decide +kernel
set_option maxHeartbeats 4000000 in
set_option maxRecDepth 100000 in
theorem c_L_labelOf_ok {l : Launch} {D : va_G} {cI cZ cJ : ClassId} {ad : Nat → Nat} {S : St} {rest : va_W} {ao : Nat} {fo : Nat → Int64} {x1 x2 : Int32} {v : Int32} (hfl : l.stackTraces = false) (h : X5_labelOf S x1 x2 = some (0, v)) : ∀ sz, Met l yL_labelOf wsL_labelOf (rm_L_labelOf 0) (PY D (t3 cI cZ cJ) [.ref (ad 32), .int x1, .int x2, .ref ao] (wE cI cZ ad S (eo ad (ad 0) (ad 7) (oc ao cJ fo rest))) sz) (QI D (t3 cI cZ cJ) (wE cI cZ ad S (eo ad (ad 0) (ad 7) (oc ao cJ fo rest))) (wE cI cZ ad S (eo ad (ad 0) (ad 7) (oc ao cJ (vp_updL fo 0 v.toInt64) rest))) sz 0) 0 0 (va_A (wE cI cZ ad S (eo ad (ad 0) (ad 7) (oc ao cJ fo rest))) sz) := by
  refine x_metH hfl (Qc := fun sz => QI D (t3 cI cZ cJ) (wE cI cZ ad S (eo ad (ad 0) (ad 7) (oc ao cJ fo rest))) (wE cI cZ ad S (eo ad (ad 0) (ad 7) (oc ao cJ (vp_updL fo 0 v.toInt64) rest))) sz 0) RL rfl (by decide) rfl (Nat.le_of_ble_eq_true rfl) (fun p e s m args below meth c C T => ?_)
  refine x_aload_n C 3 dL_labelOf_0 rfl ?_
  refine x_iconst C (v := 0) dL_labelOf_1 (by decide) ?_
  refine x_aload_n C 0 dL_labelOf_2 rfl ?_
  refine x_iload_n C 1 dL_labelOf_3 rfl ?_
  refine x_iload_n C 2 dL_labelOf_4 rfl ?_
  refine x_ci0 (x_runV C (As := [.int x1, .int x2]) (rest := [.int 0, .ref ao]) (c_X5_labelOf_ok h) (cw_L_labelOf C) 32 rfl rfl rfl (Nat.le_of_ble_eq_true rfl) dL_labelOf_5 ⟨Nat.zero_le _, Nat.zero_le _⟩) ?_
  refine x_i2l C dL_labelOf_8 ?_
  refine x_last C 33 rfl (show ¬ ((0:Int32) < 0 ∨ 1 ≤ (0:Int32).toNatClampNeg) by decide) dL_labelOf_9 (x := v.toInt64) (w' := (wE cI cZ ad S (eo ad (ad 0) (ad 7) (oc ao cJ (vp_updL fo 0 v.toInt64) rest)))) rfl ?_
  refine x_goto C (t := 17) dL_labelOf_10 (by decide) ?_
  refine x_iconst C (v := 0) dL_labelOf_17 (by decide) ?_
  exact x_iret C dL_labelOf_18
set_option maxHeartbeats 4000000 in
set_option maxRecDepth 100000 in
theorem c_L_labelOf_th0 {l : Launch} {D : va_G} {cI cZ cJ : ClassId} {ad : Nat → Nat} {S : St} {rest : va_W} {ao : Nat} {fo : Nat → Int64} {x1 x2 : Int32} {v : Int32} (hfl : l.stackTraces = false) (h : X5_labelOf S x1 x2 = some (1, v)) : ∀ sz, Met l yL_labelOf wsL_labelOf (rm_L_labelOf 1) (PY D (t3 cI cZ cJ) [.ref (ad 32), .int x1, .int x2, .ref ao] (wE cI cZ ad S (eo ad (ad 0) (ad 7) (oc ao cJ fo rest))) sz) (QI D (t3 cI cZ cJ) (wE cI cZ ad S (eo ad (ad 0) (ad 7) (oc ao cJ fo rest))) (wE cI cZ ad S (eo ad (ad 0) (ad 7) (oc ao cJ fo rest))) sz 1) 1 6 (va_A (wE cI cZ ad S (eo ad (ad 0) (ad 7) (oc ao cJ fo rest))) sz) := by
  refine x_metH hfl (Qc := fun sz => QI D (t3 cI cZ cJ) (wE cI cZ ad S (eo ad (ad 0) (ad 7) (oc ao cJ fo rest))) (wE cI cZ ad S (eo ad (ad 0) (ad 7) (oc ao cJ fo rest))) sz 1) RL rfl (by decide) rfl (Nat.le_of_ble_eq_true rfl) (fun p e s m args below meth c C T => ?_)
  refine x_aload_n C 3 dL_labelOf_0 rfl ?_
  refine x_iconst C (v := 0) dL_labelOf_1 (by decide) ?_
  refine x_aload_n C 0 dL_labelOf_2 rfl ?_
  refine x_iload_n C 1 dL_labelOf_3 rfl ?_
  refine x_iload_n C 2 dL_labelOf_4 rfl ?_
  refine x_catch C T (kk := 0) (x_runVX C T.2.2.1 (As := [.int x1, .int x2]) (rest := [.int 0, .ref ao]) (c_X5_labelOf_th hfl h) (cw_L_labelOf_th C) 32 rfl rfl rfl (Nat.le_of_ble_eq_true rfl) dL_labelOf_5 ⟨Nat.le_refl _, Nat.le_refl _⟩) (tableOf []) ⟨0, 10, 13, 13⟩ (tableOf []) rfl (fun z hz => nomatch hz) (by decide) (by decide) hk_L_labelOf_13 (fun q => ?_)
  refine x_astore C (lv' := [(0, .ref (ad 32)), (1, .int x1), (2, .int x2), (3, .ref ao), (4, .ref q)]) dL_labelOf_13 (by decide) rfl ?_
  refine x_iconst C (v := 1) dL_labelOf_15 (by decide) ?_
  exact x_iret C dL_labelOf_16
/-! the law's value -/
def rm_L_value (kc : Nat) : Room := rmf 9 148 kc
theorem cw_L_value {p : Program} {s : State} {m : MethodId} {args : Array Value} {meth : Method} {c : Code} {D : va_G} {tys : List (ClassId × FieldType)} {R : Room} {kc : Nat} (C : XC p R s m args meth c cL_value 6 (some .int) RL wsL_value D tys) : CallW (rm_L_value kc) s args RL RX5 53 yX5_value cX5_value 5 (some .int) wsX5_value (rm_X5_value 0) 0 0 3 := cwV 3 C.2.2.2.2.1 gL_value_X5_value rfl rfl rfl (by decide +kernel) ⟨Nat.le_of_ble_eq_true rfl, Nat.le_of_ble_eq_true rfl⟩
theorem cw_L_value_th {p : Program} {s : State} {m : MethodId} {args : Array Value} {meth : Method} {c : Code} {D : va_G} {tys : List (ClassId × FieldType)} {R : Room} {kc : Nat} {q : Nat} (C : XC p R s m args meth c cL_value 6 (some .int) RL wsL_value D tys) : CallW (rm_L_value kc) s args RL RX5 53 yX5_value cX5_value 5 (some .int) wsX5_value (rm_X5_value (q + 1)) 1 6 3 := cwV 3 C.2.2.2.2.1 gL_value_X5_value rfl rfl rfl (by decide +kernel) ⟨Nat.le_of_ble_eq_true rfl, Nat.le_of_ble_eq_true rfl⟩
theorem hk_L_value_13 : Cond.classLink RL 13 (exN 0) ∈ wsL_value := by decide +kernel
set_option maxHeartbeats 4000000 in
set_option maxRecDepth 100000 in
theorem c_L_value_ok {l : Launch} {D : va_G} {cI cZ cJ : ClassId} {ad : Nat → Nat} {S : St} {rest : va_W} {ao : Nat} {fo : Nat → Int64} {x1 x2 x3 : Int32} {v : Int32} (hfl : l.stackTraces = false) (h : X5_value S x1 x2 x3 = some (0, v)) : ∀ sz, Met l yL_value wsL_value (rm_L_value 0) (PY D (t3 cI cZ cJ) [.ref (ad 32), .int x1, .int x2, .int x3, .ref ao] (wE cI cZ ad S (eo ad (ad 0) (ad 7) (oc ao cJ fo rest))) sz) (QI D (t3 cI cZ cJ) (wE cI cZ ad S (eo ad (ad 0) (ad 7) (oc ao cJ fo rest))) (wE cI cZ ad S (eo ad (ad 0) (ad 7) (oc ao cJ (vp_updL fo 0 v.toInt64) rest))) sz 0) 0 0 (va_A (wE cI cZ ad S (eo ad (ad 0) (ad 7) (oc ao cJ fo rest))) sz) := by
  refine x_metH hfl (Qc := fun sz => QI D (t3 cI cZ cJ) (wE cI cZ ad S (eo ad (ad 0) (ad 7) (oc ao cJ fo rest))) (wE cI cZ ad S (eo ad (ad 0) (ad 7) (oc ao cJ (vp_updL fo 0 v.toInt64) rest))) sz 0) RL rfl (by decide) rfl (Nat.le_of_ble_eq_true rfl) (fun p e s m args below meth c C T => ?_)
  refine x_aload C 4 dL_value_0 rfl ?_
  refine x_iconst C (v := 0) dL_value_2 (by decide) ?_
  refine x_aload_n C 0 dL_value_3 rfl ?_
  refine x_iload_n C 1 dL_value_4 rfl ?_
  refine x_iload_n C 2 dL_value_5 rfl ?_
  refine x_iload_n C 3 dL_value_6 rfl ?_
  refine x_ci0 (x_runV C (As := [.int x1, .int x2, .int x3]) (rest := [.int 0, .ref ao]) (c_X5_value_ok h) (cw_L_value C) 32 rfl rfl rfl (Nat.le_of_ble_eq_true rfl) dL_value_7 ⟨Nat.zero_le _, Nat.zero_le _⟩) ?_
  refine x_i2l C dL_value_10 ?_
  refine x_last C 33 rfl (show ¬ ((0:Int32) < 0 ∨ 1 ≤ (0:Int32).toNatClampNeg) by decide) dL_value_11 (x := v.toInt64) (w' := (wE cI cZ ad S (eo ad (ad 0) (ad 7) (oc ao cJ (vp_updL fo 0 v.toInt64) rest)))) rfl ?_
  refine x_goto C (t := 19) dL_value_12 (by decide) ?_
  refine x_iconst C (v := 0) dL_value_19 (by decide) ?_
  exact x_iret C dL_value_20
set_option maxHeartbeats 4000000 in
set_option maxRecDepth 100000 in
theorem c_L_value_th0 {l : Launch} {D : va_G} {cI cZ cJ : ClassId} {ad : Nat → Nat} {S : St} {rest : va_W} {ao : Nat} {fo : Nat → Int64} {x1 x2 x3 : Int32} {v : Int32} (hfl : l.stackTraces = false) (h : X5_value S x1 x2 x3 = some (1, v)) : ∀ sz, Met l yL_value wsL_value (rm_L_value 1) (PY D (t3 cI cZ cJ) [.ref (ad 32), .int x1, .int x2, .int x3, .ref ao] (wE cI cZ ad S (eo ad (ad 0) (ad 7) (oc ao cJ fo rest))) sz) (QI D (t3 cI cZ cJ) (wE cI cZ ad S (eo ad (ad 0) (ad 7) (oc ao cJ fo rest))) (wE cI cZ ad S (eo ad (ad 0) (ad 7) (oc ao cJ fo rest))) sz 1) 1 6 (va_A (wE cI cZ ad S (eo ad (ad 0) (ad 7) (oc ao cJ fo rest))) sz) := by
  refine x_metH hfl (Qc := fun sz => QI D (t3 cI cZ cJ) (wE cI cZ ad S (eo ad (ad 0) (ad 7) (oc ao cJ fo rest))) (wE cI cZ ad S (eo ad (ad 0) (ad 7) (oc ao cJ fo rest))) sz 1) RL rfl (by decide) rfl (Nat.le_of_ble_eq_true rfl) (fun p e s m args below meth c C T => ?_)
  refine x_aload C 4 dL_value_0 rfl ?_
  refine x_iconst C (v := 0) dL_value_2 (by decide) ?_
  refine x_aload_n C 0 dL_value_3 rfl ?_
  refine x_iload_n C 1 dL_value_4 rfl ?_
  refine x_iload_n C 2 dL_value_5 rfl ?_
  refine x_iload_n C 3 dL_value_6 rfl ?_
  refine x_catch C T (kk := 0) (x_runVX C T.2.2.1 (As := [.int x1, .int x2, .int x3]) (rest := [.int 0, .ref ao]) (c_X5_value_th hfl h) (cw_L_value_th C) 32 rfl rfl rfl (Nat.le_of_ble_eq_true rfl) dL_value_7 ⟨Nat.le_refl _, Nat.le_refl _⟩) (tableOf []) ⟨0, 12, 15, 13⟩ (tableOf []) rfl (fun z hz => nomatch hz) (by decide) (by decide) hk_L_value_13 (fun q => ?_)
  refine x_astore C (lv' := [(0, .ref (ad 32)), (1, .int x1), (2, .int x2), (3, .int x3), (4, .ref ao), (5, .ref q)]) dL_value_15 (by decide) rfl ?_
  refine x_iconst C (v := 1) dL_value_17 (by decide) ?_
  exact x_iret C dL_value_18
/-! the law's isWhole -/
def rm_L_isWhole (kc : Nat) : Room := rmf 9 147 kc
theorem cw_L_isWhole {p : Program} {s : State} {m : MethodId} {args : Array Value} {meth : Method} {c : Code} {D : va_G} {tys : List (ClassId × FieldType)} {R : Room} {kc : Nat} (C : XC p R s m args meth c cL_isWhole 5 (some .int) RL wsL_isWhole D tys) : CallW (rm_L_isWhole kc) s args RL RX5 57 yX5_isWhole cX5_isWhole 4 (some .boolean) wsX5_isWhole (rm_X5_isWhole 0) 0 0 2 := cwV 2 C.2.2.2.2.1 gL_isWhole_X5_isWhole rfl rfl rfl (by decide +kernel) ⟨Nat.le_of_ble_eq_true rfl, Nat.le_of_ble_eq_true rfl⟩
theorem cw_L_isWhole_th {p : Program} {s : State} {m : MethodId} {args : Array Value} {meth : Method} {c : Code} {D : va_G} {tys : List (ClassId × FieldType)} {R : Room} {kc : Nat} {q : Nat} (C : XC p R s m args meth c cL_isWhole 5 (some .int) RL wsL_isWhole D tys) : CallW (rm_L_isWhole kc) s args RL RX5 57 yX5_isWhole cX5_isWhole 4 (some .boolean) wsX5_isWhole (rm_X5_isWhole (q + 1)) 1 6 2 := cwV 2 C.2.2.2.2.1 gL_isWhole_X5_isWhole rfl rfl rfl (by decide +kernel) ⟨Nat.le_of_ble_eq_true rfl, Nat.le_of_ble_eq_true rfl⟩
theorem hk_L_isWhole_13 : Cond.classLink RL 13 (exN 0) ∈ wsL_isWhole := by decide +kernel
set_option maxHeartbeats 4000000 in
set_option maxRecDepth 100000 in
theorem c_L_isWhole_ok {l : Launch} {D : va_G} {cI cZ cJ : ClassId} {ad : Nat → Nat} {S : St} {rest : va_W} {ao : Nat} {fo : Nat → Int64} {x1 x2 : Int32} {v : Int32} (hfl : l.stackTraces = false) (h : X5_isWhole S x1 x2 = some (0, v)) : ∀ sz, Met l yL_isWhole wsL_isWhole (rm_L_isWhole 0) (PY D (t3 cI cZ cJ) [.ref (ad 32), .int x1, .int x2, .ref ao] (wE cI cZ ad S (eo ad (ad 0) (ad 7) (oc ao cJ fo rest))) sz) (QI D (t3 cI cZ cJ) (wE cI cZ ad S (eo ad (ad 0) (ad 7) (oc ao cJ fo rest))) (wE cI cZ ad S (eo ad (ad 0) (ad 7) (oc ao cJ (vp_updL fo 0 (if v = 0 then 0 else 1)) rest))) sz 0) 0 0 (va_A (wE cI cZ ad S (eo ad (ad 0) (ad 7) (oc ao cJ fo rest))) sz) := by
  refine x_metH hfl (Qc := fun sz => QI D (t3 cI cZ cJ) (wE cI cZ ad S (eo ad (ad 0) (ad 7) (oc ao cJ fo rest))) (wE cI cZ ad S (eo ad (ad 0) (ad 7) (oc ao cJ (vp_updL fo 0 (if v = 0 then 0 else 1)) rest))) sz 0) RL rfl (by decide) rfl (Nat.le_of_ble_eq_true rfl) (fun p e s m args below meth c C T => ?_)
  refine x_aload_n C 3 dL_isWhole_0 rfl ?_
  refine x_iconst C (v := 0) dL_isWhole_1 (by decide) ?_
  refine x_aload_n C 0 dL_isWhole_2 rfl ?_
  refine x_iload_n C 1 dL_isWhole_3 rfl ?_
  refine x_iload_n C 2 dL_isWhole_4 rfl ?_
  refine x_ci0 (x_runV C (As := [.int x1, .int x2]) (rest := [.int 0, .ref ao]) (c_X5_isWhole_ok h) (cw_L_isWhole C) 32 rfl rfl rfl (Nat.le_of_ble_eq_true rfl) dL_isWhole_5 ⟨Nat.zero_le _, Nat.zero_le _⟩) ?_
  refine x_if_eq C (t := 15) dL_isWhole_8 (by decide) (fun c1 => ?_) (fun c1 => ?_)
  · rw [if_pos c1]
    refine x_lconst C (v := 0) dL_isWhole_15 (by decide) ?_
    refine x_last C 33 rfl (show ¬ ((0:Int32) < 0 ∨ 1 ≤ (0:Int32).toNatClampNeg) by decide) dL_isWhole_16 (x := 0) (w' := (wE cI cZ ad S (eo ad (ad 0) (ad 7) (oc ao cJ (vp_updL fo 0 0) rest)))) rfl ?_
    refine x_goto C (t := 24) dL_isWhole_17 (by decide) ?_
    refine x_iconst C (v := 0) dL_isWhole_24 (by decide) ?_
    exact x_iret C dL_isWhole_25
  · rw [if_neg c1]
    refine x_lconst C (v := 1) dL_isWhole_11 (by decide) ?_
    refine x_goto C (t := 16) dL_isWhole_12 (by decide) ?_
    refine x_last C 33 rfl (show ¬ ((0:Int32) < 0 ∨ 1 ≤ (0:Int32).toNatClampNeg) by decide) dL_isWhole_16 (x := 1) (w' := (wE cI cZ ad S (eo ad (ad 0) (ad 7) (oc ao cJ (vp_updL fo 0 1) rest)))) rfl ?_
    refine x_goto C (t := 24) dL_isWhole_17 (by decide) ?_
    refine x_iconst C (v := 0) dL_isWhole_24 (by decide) ?_
    exact x_iret C dL_isWhole_25
set_option maxHeartbeats 4000000 in
set_option maxRecDepth 100000 in
theorem c_L_isWhole_th0 {l : Launch} {D : va_G} {cI cZ cJ : ClassId} {ad : Nat → Nat} {S : St} {rest : va_W} {ao : Nat} {fo : Nat → Int64} {x1 x2 : Int32} {v : Int32} (hfl : l.stackTraces = false) (h : X5_isWhole S x1 x2 = some (1, v)) : ∀ sz, Met l yL_isWhole wsL_isWhole (rm_L_isWhole 1) (PY D (t3 cI cZ cJ) [.ref (ad 32), .int x1, .int x2, .ref ao] (wE cI cZ ad S (eo ad (ad 0) (ad 7) (oc ao cJ fo rest))) sz) (QI D (t3 cI cZ cJ) (wE cI cZ ad S (eo ad (ad 0) (ad 7) (oc ao cJ fo rest))) (wE cI cZ ad S (eo ad (ad 0) (ad 7) (oc ao cJ fo rest))) sz 1) 1 6 (va_A (wE cI cZ ad S (eo ad (ad 0) (ad 7) (oc ao cJ fo rest))) sz) := by
  refine x_metH hfl (Qc := fun sz => QI D (t3 cI cZ cJ) (wE cI cZ ad S (eo ad (ad 0) (ad 7) (oc ao cJ fo rest))) (wE cI cZ ad S (eo ad (ad 0) (ad 7) (oc ao cJ fo rest))) sz 1) RL rfl (by decide) rfl (Nat.le_of_ble_eq_true rfl) (fun p e s m args below meth c C T => ?_)
  refine x_aload_n C 3 dL_isWhole_0 rfl ?_
  refine x_iconst C (v := 0) dL_isWhole_1 (by decide) ?_
  refine x_aload_n C 0 dL_isWhole_2 rfl ?_
  refine x_iload_n C 1 dL_isWhole_3 rfl ?_
  refine x_iload_n C 2 dL_isWhole_4 rfl ?_
  refine x_catch C T (kk := 0) (x_runVX C T.2.2.1 (As := [.int x1, .int x2]) (rest := [.int 0, .ref ao]) (c_X5_isWhole_th hfl h) (cw_L_isWhole_th C) 32 rfl rfl rfl (Nat.le_of_ble_eq_true rfl) dL_isWhole_5 ⟨Nat.le_refl _, Nat.le_refl _⟩) (tableOf []) ⟨0, 17, 20, 13⟩ (tableOf []) rfl (fun z hz => nomatch hz) (by decide) (by decide) hk_L_isWhole_13 (fun q => ?_)
  refine x_astore C (lv' := [(0, .ref (ad 32)), (1, .int x1), (2, .int x2), (3, .ref ao), (4, .ref q)]) dL_isWhole_20 (by decide) rfl ?_
  refine x_iconst C (v := 1) dL_isWhole_22 (by decide) ?_
  exact x_iret C dL_isWhole_23
/-! the law's find -/
def rm_L_find (kc : Nat) : Room := rmf 9 148 kc
theorem cw_L_find {p : Program} {s : State} {m : MethodId} {args : Array Value} {meth : Method} {c : Code} {D : va_G} {tys : List (ClassId × FieldType)} {R : Room} {kc : Nat} (C : XC p R s m args meth c cL_find 6 (some .int) RL wsL_find D tys) : CallW (rm_L_find kc) s args RL RX5 60 yX5_find cX5_find 5 (some .int) wsX5_find (rm_X5_find 0) 0 0 3 := cwV 3 C.2.2.2.2.1 gL_find_X5_find rfl rfl rfl (by decide +kernel) ⟨Nat.le_of_ble_eq_true rfl, Nat.le_of_ble_eq_true rfl⟩
theorem cw_L_find_th {p : Program} {s : State} {m : MethodId} {args : Array Value} {meth : Method} {c : Code} {D : va_G} {tys : List (ClassId × FieldType)} {R : Room} {kc : Nat} {q : Nat} (C : XC p R s m args meth c cL_find 6 (some .int) RL wsL_find D tys) : CallW (rm_L_find kc) s args RL RX5 60 yX5_find cX5_find 5 (some .int) wsX5_find (rm_X5_find (q + 1)) 1 6 3 := cwV 3 C.2.2.2.2.1 gL_find_X5_find rfl rfl rfl (by decide +kernel) ⟨Nat.le_of_ble_eq_true rfl, Nat.le_of_ble_eq_true rfl⟩
theorem hk_L_find_13 : Cond.classLink RL 13 (exN 0) ∈ wsL_find := by decide +kernel
theorem hk_L_find_15 : Cond.classLink RL 15 (exN 1) ∈ wsL_find := by decide +kernel
set_option maxHeartbeats 4000000 in
set_option maxRecDepth 100000 in
theorem c_L_find_ok {l : Launch} {D : va_G} {cI cZ cJ : ClassId} {ad : Nat → Nat} {S : St} {rest : va_W} {ao : Nat} {fo : Nat → Int64} {x1 x2 x3 : Int32} {v : Int32} (hfl : l.stackTraces = false) (h : X5_find S x1 x2 x3 = some (0, v)) : ∀ sz, Met l yL_find wsL_find (rm_L_find 0) (PY D (t3 cI cZ cJ) [.ref (ad 32), .int x1, .int x2, .int x3, .ref ao] (wE cI cZ ad S (eo ad (ad 0) (ad 7) (oc ao cJ fo rest))) sz) (QI D (t3 cI cZ cJ) (wE cI cZ ad S (eo ad (ad 0) (ad 7) (oc ao cJ fo rest))) (wE cI cZ ad S (eo ad (ad 0) (ad 7) (oc ao cJ (vp_updL fo 0 v.toInt64) rest))) sz 0) 0 0 (va_A (wE cI cZ ad S (eo ad (ad 0) (ad 7) (oc ao cJ fo rest))) sz) := by
  refine x_metH hfl (Qc := fun sz => QI D (t3 cI cZ cJ) (wE cI cZ ad S (eo ad (ad 0) (ad 7) (oc ao cJ fo rest))) (wE cI cZ ad S (eo ad (ad 0) (ad 7) (oc ao cJ (vp_updL fo 0 v.toInt64) rest))) sz 0) RL rfl (by decide) rfl (Nat.le_of_ble_eq_true rfl) (fun p e s m args below meth c C T => ?_)
  refine x_aload C 4 dL_find_0 rfl ?_
  refine x_iconst C (v := 0) dL_find_2 (by decide) ?_
  refine x_aload_n C 0 dL_find_3 rfl ?_
  refine x_iload_n C 1 dL_find_4 rfl ?_
  refine x_iload_n C 2 dL_find_5 rfl ?_
  refine x_iload_n C 3 dL_find_6 rfl ?_
  refine x_ci0 (x_runV C (As := [.int x1, .int x2, .int x3]) (rest := [.int 0, .ref ao]) (c_X5_find_ok h) (cw_L_find C) 32 rfl rfl rfl (Nat.le_of_ble_eq_true rfl) dL_find_7 ⟨Nat.zero_le _, Nat.zero_le _⟩) ?_
  refine x_i2l C dL_find_10 ?_
  refine x_last C 33 rfl (show ¬ ((0:Int32) < 0 ∨ 1 ≤ (0:Int32).toNatClampNeg) by decide) dL_find_11 (x := v.toInt64) (w' := (wE cI cZ ad S (eo ad (ad 0) (ad 7) (oc ao cJ (vp_updL fo 0 v.toInt64) rest)))) rfl ?_
  refine x_goto C (t := 23) dL_find_12 (by decide) ?_
  refine x_iconst C (v := 0) dL_find_23 (by decide) ?_
  exact x_iret C dL_find_24
set_option maxHeartbeats 4000000 in
set_option maxRecDepth 100000 in
theorem c_L_find_th0 {l : Launch} {D : va_G} {cI cZ cJ : ClassId} {ad : Nat → Nat} {S : St} {rest : va_W} {ao : Nat} {fo : Nat → Int64} {x1 x2 x3 : Int32} {v : Int32} (hfl : l.stackTraces = false) (h : X5_find S x1 x2 x3 = some (1, v)) : ∀ sz, Met l yL_find wsL_find (rm_L_find 1) (PY D (t3 cI cZ cJ) [.ref (ad 32), .int x1, .int x2, .int x3, .ref ao] (wE cI cZ ad S (eo ad (ad 0) (ad 7) (oc ao cJ fo rest))) sz) (QI D (t3 cI cZ cJ) (wE cI cZ ad S (eo ad (ad 0) (ad 7) (oc ao cJ fo rest))) (wE cI cZ ad S (eo ad (ad 0) (ad 7) (oc ao cJ fo rest))) sz 1) 1 6 (va_A (wE cI cZ ad S (eo ad (ad 0) (ad 7) (oc ao cJ fo rest))) sz) := by
  refine x_metH hfl (Qc := fun sz => QI D (t3 cI cZ cJ) (wE cI cZ ad S (eo ad (ad 0) (ad 7) (oc ao cJ fo rest))) (wE cI cZ ad S (eo ad (ad 0) (ad 7) (oc ao cJ fo rest))) sz 1) RL rfl (by decide) rfl (Nat.le_of_ble_eq_true rfl) (fun p e s m args below meth c C T => ?_)
  refine x_aload C 4 dL_find_0 rfl ?_
  refine x_iconst C (v := 0) dL_find_2 (by decide) ?_
  refine x_aload_n C 0 dL_find_3 rfl ?_
  refine x_iload_n C 1 dL_find_4 rfl ?_
  refine x_iload_n C 2 dL_find_5 rfl ?_
  refine x_iload_n C 3 dL_find_6 rfl ?_
  refine x_catch C T (kk := 0) (x_runVX C T.2.2.1 (As := [.int x1, .int x2, .int x3]) (rest := [.int 0, .ref ao]) (c_X5_find_th hfl h) (cw_L_find_th C) 32 rfl rfl rfl (Nat.le_of_ble_eq_true rfl) dL_find_7 ⟨Nat.le_refl _, Nat.le_refl _⟩) (tableOf []) ⟨0, 12, 15, 13⟩ (tableOf [(0, 12, 19, 15)]) rfl (fun z hz => nomatch hz) (by decide) (by decide) hk_L_find_13 (fun q => ?_)
  refine x_astore C (lv' := [(0, .ref (ad 32)), (1, .int x1), (2, .int x2), (3, .int x3), (4, .ref ao), (5, .ref q)]) dL_find_15 (by decide) rfl ?_
  refine x_iconst C (v := 1) dL_find_17 (by decide) ?_
  exact x_iret C dL_find_18
set_option maxHeartbeats 4000000 in
set_option maxRecDepth 100000 in
theorem c_L_find_th1 {l : Launch} {D : va_G} {cI cZ cJ : ClassId} {ad : Nat → Nat} {S : St} {rest : va_W} {ao : Nat} {fo : Nat → Int64} {x1 x2 x3 : Int32} {v : Int32} (hfl : l.stackTraces = false) (h : X5_find S x1 x2 x3 = some (2, v)) : ∀ sz, Met l yL_find wsL_find (rm_L_find 1) (PY D (t3 cI cZ cJ) [.ref (ad 32), .int x1, .int x2, .int x3, .ref ao] (wE cI cZ ad S (eo ad (ad 0) (ad 7) (oc ao cJ fo rest))) sz) (QI D (t3 cI cZ cJ) (wE cI cZ ad S (eo ad (ad 0) (ad 7) (oc ao cJ fo rest))) (wE cI cZ ad S (eo ad (ad 0) (ad 7) (oc ao cJ fo rest))) sz 2) 1 6 (va_A (wE cI cZ ad S (eo ad (ad 0) (ad 7) (oc ao cJ fo rest))) sz) := by
  refine x_metH hfl (Qc := fun sz => QI D (t3 cI cZ cJ) (wE cI cZ ad S (eo ad (ad 0) (ad 7) (oc ao cJ fo rest))) (wE cI cZ ad S (eo ad (ad 0) (ad 7) (oc ao cJ fo rest))) sz 2) RL rfl (by decide) rfl (Nat.le_of_ble_eq_true rfl) (fun p e s m args below meth c C T => ?_)
  refine x_aload C 4 dL_find_0 rfl ?_
  refine x_iconst C (v := 0) dL_find_2 (by decide) ?_
  refine x_aload_n C 0 dL_find_3 rfl ?_
  refine x_iload_n C 1 dL_find_4 rfl ?_
  refine x_iload_n C 2 dL_find_5 rfl ?_
  refine x_iload_n C 3 dL_find_6 rfl ?_
  refine x_catch C T (kk := 1) (x_runVX C T.2.2.1 (As := [.int x1, .int x2, .int x3]) (rest := [.int 0, .ref ao]) (c_X5_find_th hfl h) (cw_L_find_th C) 32 rfl rfl rfl (Nat.le_of_ble_eq_true rfl) dL_find_7 ⟨Nat.le_refl _, Nat.le_refl _⟩) (tableOf [(0, 12, 15, 13)]) ⟨0, 12, 19, 15⟩ (tableOf []) rfl (fun z hz => by
    rcases List.mem_cons.mp hz with rfl | hz
    · exact ⟨by decide, _, hk_L_find_13, T.2.2.2 1 0 (by decide) (by decide) (by decide)⟩
    exact nomatch hz) (by decide) (by decide) hk_L_find_15 (fun q => ?_)
  refine x_astore C (lv' := [(0, .ref (ad 32)), (1, .int x1), (2, .int x2), (3, .int x3), (4, .ref ao), (5, .ref q)]) dL_find_19 (by decide) rfl ?_
  refine x_iconst C (v := 2) dL_find_21 (by decide) ?_
  exact x_iret C dL_find_22
/-! the law's setRight -/
def rm_L_setRight (kc : Nat) : Room := rmf 8 127 kc
theorem cw_L_setRight {p : Program} {s : State} {m : MethodId} {args : Array Value} {meth : Method} {c : Code} {D : va_G} {tys : List (ClassId × FieldType)} {R : Room} {kc : Nat} (C : XC p R s m args meth c cL_setRight 5 (some .int) RL wsL_setRight D tys) : CallW (rm_L_setRight kc) s args RL RX5 63 yX5_setRight cX5_setRight 4 none wsX5_setRight (rm_X5_setRight 0) 0 0 3 := cwV 3 C.2.2.2.2.1 gL_setRight_X5_setRight rfl rfl rfl (by decide +kernel) ⟨Nat.le_of_ble_eq_true rfl, Nat.le_of_ble_eq_true rfl⟩
theorem cw_L_setRight_th {p : Program} {s : State} {m : MethodId} {args : Array Value} {meth : Method} {c : Code} {D : va_G} {tys : List (ClassId × FieldType)} {R : Room} {kc : Nat} {q : Nat} (C : XC p R s m args meth c cL_setRight 5 (some .int) RL wsL_setRight D tys) : CallW (rm_L_setRight kc) s args RL RX5 63 yX5_setRight cX5_setRight 4 none wsX5_setRight (rm_X5_setRight (q + 1)) 1 6 3 := cwV 3 C.2.2.2.2.1 gL_setRight_X5_setRight rfl rfl rfl (by decide +kernel) ⟨Nat.le_of_ble_eq_true rfl, Nat.le_of_ble_eq_true rfl⟩
theorem hk_L_setRight_13 : Cond.classLink RL 13 (exN 0) ∈ wsL_setRight := by decide +kernel
theorem hk_L_setRight_15 : Cond.classLink RL 15 (exN 1) ∈ wsL_setRight := by decide +kernel
set_option maxHeartbeats 4000000 in
set_option maxRecDepth 100000 in
theorem c_L_setRight_ok {l : Launch} {D : va_G} {cI cZ cJ : ClassId} {ad : Nat → Nat} {S : St} {rest : va_W} {x1 x2 x3 : Int32} {S' : St} (hfl : l.stackTraces = false) (h : X5_setRight S x1 x2 x3 = some (0, S')) : ∀ sz, Met l yL_setRight wsL_setRight (rm_L_setRight 0) (PY D (t3 cI cZ cJ) [.ref (ad 32), .int x1, .int x2, .int x3] (wE cI cZ ad S (eo ad (ad 0) (ad 7) rest)) sz) (QI D (t3 cI cZ cJ) (wE cI cZ ad S (eo ad (ad 0) (ad 7) rest)) (wE cI cZ ad S' (eo ad (ad 0) (ad 7) rest)) sz 0) 0 0 (va_A (wE cI cZ ad S (eo ad (ad 0) (ad 7) rest)) sz) := by
  refine x_metH hfl (Qc := fun sz => QI D (t3 cI cZ cJ) (wE cI cZ ad S (eo ad (ad 0) (ad 7) rest)) (wE cI cZ ad S' (eo ad (ad 0) (ad 7) rest)) sz 0) RL rfl (by decide) rfl (Nat.le_of_ble_eq_true rfl) (fun p e s m args below meth c C T => ?_)
  refine x_aload_n C 0 dL_setRight_0 rfl ?_
  refine x_iload_n C 1 dL_setRight_1 rfl ?_
  refine x_iload_n C 2 dL_setRight_2 rfl ?_
  refine x_iload_n C 3 dL_setRight_3 rfl ?_
  refine x_cv0 (x_runV C (As := [.int x1, .int x2, .int x3]) (rest := []) (c_X5_setRight_ok h) (cw_L_setRight C) 32 rfl rfl rfl (Nat.le_of_ble_eq_true rfl) dL_setRight_4 ⟨Nat.zero_le _, Nat.zero_le _⟩) ?_
  refine x_goto C (t := 18) dL_setRight_7 (by decide) ?_
  refine x_iconst C (v := 0) dL_setRight_18 (by decide) ?_
  exact x_iret C dL_setRight_19
set_option maxHeartbeats 4000000 in
set_option maxRecDepth 100000 in
theorem c_L_setRight_th0 {l : Launch} {D : va_G} {cI cZ cJ : ClassId} {ad : Nat → Nat} {S : St} {rest : va_W} {x1 x2 x3 : Int32} {S' : St} (hfl : l.stackTraces = false) (h : X5_setRight S x1 x2 x3 = some (1, S')) : ∀ sz, Met l yL_setRight wsL_setRight (rm_L_setRight 1) (PY D (t3 cI cZ cJ) [.ref (ad 32), .int x1, .int x2, .int x3] (wE cI cZ ad S (eo ad (ad 0) (ad 7) rest)) sz) (QI D (t3 cI cZ cJ) (wE cI cZ ad S (eo ad (ad 0) (ad 7) rest)) (wE cI cZ ad S' (eo ad (ad 0) (ad 7) rest)) sz 1) 1 6 (va_A (wE cI cZ ad S (eo ad (ad 0) (ad 7) rest)) sz) := by
  refine x_metH hfl (Qc := fun sz => QI D (t3 cI cZ cJ) (wE cI cZ ad S (eo ad (ad 0) (ad 7) rest)) (wE cI cZ ad S' (eo ad (ad 0) (ad 7) rest)) sz 1) RL rfl (by decide) rfl (Nat.le_of_ble_eq_true rfl) (fun p e s m args below meth c C T => ?_)
  refine x_aload_n C 0 dL_setRight_0 rfl ?_
  refine x_iload_n C 1 dL_setRight_1 rfl ?_
  refine x_iload_n C 2 dL_setRight_2 rfl ?_
  refine x_iload_n C 3 dL_setRight_3 rfl ?_
  refine x_catch C T (kk := 0) (x_runVX C T.2.2.1 (As := [.int x1, .int x2, .int x3]) (rest := []) (c_X5_setRight_th hfl h) (cw_L_setRight_th C) 32 rfl rfl rfl (Nat.le_of_ble_eq_true rfl) dL_setRight_4 ⟨Nat.le_refl _, Nat.le_refl _⟩) (tableOf []) ⟨0, 7, 10, 13⟩ (tableOf [(0, 7, 14, 15)]) rfl (fun z hz => nomatch hz) (by decide) (by decide) hk_L_setRight_13 (fun q => ?_)
  refine x_astore C (lv' := [(0, .ref (ad 32)), (1, .int x1), (2, .int x2), (3, .int x3), (4, .ref q)]) dL_setRight_10 (by decide) rfl ?_
  refine x_iconst C (v := 1) dL_setRight_12 (by decide) ?_
  exact x_iret C dL_setRight_13
set_option maxHeartbeats 4000000 in
set_option maxRecDepth 100000 in
theorem c_L_setRight_th1 {l : Launch} {D : va_G} {cI cZ cJ : ClassId} {ad : Nat → Nat} {S : St} {rest : va_W} {x1 x2 x3 : Int32} {S' : St} (hfl : l.stackTraces = false) (h : X5_setRight S x1 x2 x3 = some (2, S')) : ∀ sz, Met l yL_setRight wsL_setRight (rm_L_setRight 1) (PY D (t3 cI cZ cJ) [.ref (ad 32), .int x1, .int x2, .int x3] (wE cI cZ ad S (eo ad (ad 0) (ad 7) rest)) sz) (QI D (t3 cI cZ cJ) (wE cI cZ ad S (eo ad (ad 0) (ad 7) rest)) (wE cI cZ ad S' (eo ad (ad 0) (ad 7) rest)) sz 2) 1 6 (va_A (wE cI cZ ad S (eo ad (ad 0) (ad 7) rest)) sz) := by
  refine x_metH hfl (Qc := fun sz => QI D (t3 cI cZ cJ) (wE cI cZ ad S (eo ad (ad 0) (ad 7) rest)) (wE cI cZ ad S' (eo ad (ad 0) (ad 7) rest)) sz 2) RL rfl (by decide) rfl (Nat.le_of_ble_eq_true rfl) (fun p e s m args below meth c C T => ?_)
  refine x_aload_n C 0 dL_setRight_0 rfl ?_
  refine x_iload_n C 1 dL_setRight_1 rfl ?_
  refine x_iload_n C 2 dL_setRight_2 rfl ?_
  refine x_iload_n C 3 dL_setRight_3 rfl ?_
  refine x_catch C T (kk := 1) (x_runVX C T.2.2.1 (As := [.int x1, .int x2, .int x3]) (rest := []) (c_X5_setRight_th hfl h) (cw_L_setRight_th C) 32 rfl rfl rfl (Nat.le_of_ble_eq_true rfl) dL_setRight_4 ⟨Nat.le_refl _, Nat.le_refl _⟩) (tableOf [(0, 7, 10, 13)]) ⟨0, 7, 14, 15⟩ (tableOf []) rfl (fun z hz => by
    rcases List.mem_cons.mp hz with rfl | hz
    · exact ⟨by decide, _, hk_L_setRight_13, T.2.2.2 1 0 (by decide) (by decide) (by decide)⟩
    exact nomatch hz) (by decide) (by decide) hk_L_setRight_15 (fun q => ?_)
  refine x_astore C (lv' := [(0, .ref (ad 32)), (1, .int x1), (2, .int x2), (3, .int x3), (4, .ref q)]) dL_setRight_14 (by decide) rfl ?_
  refine x_iconst C (v := 2) dL_setRight_16 (by decide) ?_
  exact x_iret C dL_setRight_17
/-! the law's refer -/
def rm_L_refer (kc : Nat) : Room := rmf 8 125 kc
theorem cw_L_refer {p : Program} {s : State} {m : MethodId} {args : Array Value} {meth : Method} {c : Code} {D : va_G} {tys : List (ClassId × FieldType)} {R : Room} {kc : Nat} (C : XC p R s m args meth c cL_refer 4 (some .int) RL wsL_refer D tys) : CallW (rm_L_refer kc) s args RL RX5 66 yX5_refer cX5_refer 3 none wsX5_refer (rm_X5_refer 0) 0 0 2 := cwV 2 C.2.2.2.2.1 gL_refer_X5_refer rfl rfl rfl (by decide +kernel) ⟨Nat.le_of_ble_eq_true rfl, Nat.le_of_ble_eq_true rfl⟩
theorem cw_L_refer_th {p : Program} {s : State} {m : MethodId} {args : Array Value} {meth : Method} {c : Code} {D : va_G} {tys : List (ClassId × FieldType)} {R : Room} {kc : Nat} {q : Nat} (C : XC p R s m args meth c cL_refer 4 (some .int) RL wsL_refer D tys) : CallW (rm_L_refer kc) s args RL RX5 66 yX5_refer cX5_refer 3 none wsX5_refer (rm_X5_refer (q + 1)) 1 6 2 := cwV 2 C.2.2.2.2.1 gL_refer_X5_refer rfl rfl rfl (by decide +kernel) ⟨Nat.le_of_ble_eq_true rfl, Nat.le_of_ble_eq_true rfl⟩
theorem hk_L_refer_13 : Cond.classLink RL 13 (exN 0) ∈ wsL_refer := by decide +kernel
set_option maxHeartbeats 4000000 in
set_option maxRecDepth 100000 in
theorem c_L_refer_ok {l : Launch} {D : va_G} {cI cZ cJ : ClassId} {ad : Nat → Nat} {S : St} {rest : va_W} {x1 x2 : Int32} {S' : St} (hfl : l.stackTraces = false) (h : X5_refer S x1 x2 = some (0, S')) : ∀ sz, Met l yL_refer wsL_refer (rm_L_refer 0) (PY D (t3 cI cZ cJ) [.ref (ad 32), .int x1, .int x2] (wE cI cZ ad S (eo ad (ad 0) (ad 7) rest)) sz) (QI D (t3 cI cZ cJ) (wE cI cZ ad S (eo ad (ad 0) (ad 7) rest)) (wE cI cZ ad S' (eo ad (ad 0) (ad 7) rest)) sz 0) 0 0 (va_A (wE cI cZ ad S (eo ad (ad 0) (ad 7) rest)) sz) := by
  refine x_metH hfl (Qc := fun sz => QI D (t3 cI cZ cJ) (wE cI cZ ad S (eo ad (ad 0) (ad 7) rest)) (wE cI cZ ad S' (eo ad (ad 0) (ad 7) rest)) sz 0) RL rfl (by decide) rfl (Nat.le_of_ble_eq_true rfl) (fun p e s m args below meth c C T => ?_)
  refine x_aload_n C 0 dL_refer_0 rfl ?_
  refine x_iload_n C 1 dL_refer_1 rfl ?_
  refine x_iload_n C 2 dL_refer_2 rfl ?_
  refine x_cv0 (x_runV C (As := [.int x1, .int x2]) (rest := []) (c_X5_refer_ok h) (cw_L_refer C) 32 rfl rfl rfl (Nat.le_of_ble_eq_true rfl) dL_refer_3 ⟨Nat.zero_le _, Nat.zero_le _⟩) ?_
  refine x_goto C (t := 12) dL_refer_6 (by decide) ?_
  refine x_iconst C (v := 0) dL_refer_12 (by decide) ?_
  exact x_iret C dL_refer_13
set_option maxHeartbeats 4000000 in
set_option maxRecDepth 100000 in
theorem c_L_refer_th0 {l : Launch} {D : va_G} {cI cZ cJ : ClassId} {ad : Nat → Nat} {S : St} {rest : va_W} {x1 x2 : Int32} {S' : St} (hfl : l.stackTraces = false) (h : X5_refer S x1 x2 = some (1, S')) : ∀ sz, Met l yL_refer wsL_refer (rm_L_refer 1) (PY D (t3 cI cZ cJ) [.ref (ad 32), .int x1, .int x2] (wE cI cZ ad S (eo ad (ad 0) (ad 7) rest)) sz) (QI D (t3 cI cZ cJ) (wE cI cZ ad S (eo ad (ad 0) (ad 7) rest)) (wE cI cZ ad S' (eo ad (ad 0) (ad 7) rest)) sz 1) 1 6 (va_A (wE cI cZ ad S (eo ad (ad 0) (ad 7) rest)) sz) := by
  refine x_metH hfl (Qc := fun sz => QI D (t3 cI cZ cJ) (wE cI cZ ad S (eo ad (ad 0) (ad 7) rest)) (wE cI cZ ad S' (eo ad (ad 0) (ad 7) rest)) sz 1) RL rfl (by decide) rfl (Nat.le_of_ble_eq_true rfl) (fun p e s m args below meth c C T => ?_)
  refine x_aload_n C 0 dL_refer_0 rfl ?_
  refine x_iload_n C 1 dL_refer_1 rfl ?_
  refine x_iload_n C 2 dL_refer_2 rfl ?_
  refine x_catch C T (kk := 0) (x_runVX C T.2.2.1 (As := [.int x1, .int x2]) (rest := []) (c_X5_refer_th hfl h) (cw_L_refer_th C) 32 rfl rfl rfl (Nat.le_of_ble_eq_true rfl) dL_refer_3 ⟨Nat.le_refl _, Nat.le_refl _⟩) (tableOf []) ⟨0, 6, 9, 13⟩ (tableOf []) rfl (fun z hz => nomatch hz) (by decide) (by decide) hk_L_refer_13 (fun q => ?_)
  refine x_astore_n C (lv' := [(0, .ref (ad 32)), (1, .int x1), (2, .int x2), (3, .ref q)]) dL_refer_9 (by decide) rfl ?_
  refine x_iconst C (v := 1) dL_refer_10 (by decide) ?_
  exact x_iret C dL_refer_11
/-! the law's test -/
def rm_L_test (kc : Nat) : Room := rmf 8 127 kc
theorem cw_L_test {p : Program} {s : State} {m : MethodId} {args : Array Value} {meth : Method} {c : Code} {D : va_G} {tys : List (ClassId × FieldType)} {R : Room} {kc : Nat} (C : XC p R s m args meth c cL_test 6 (some .int) RL wsL_test D tys) : CallW (rm_L_test kc) s args RL RX5 70 yX5_test cX5_test 4 (some .int) wsX5_test (rm_X5_test 0) 0 0 3 := cwV 3 C.2.2.2.2.1 gL_test_X5_test rfl rfl rfl (by decide +kernel) ⟨Nat.le_of_ble_eq_true rfl, Nat.le_of_ble_eq_true rfl⟩
theorem cw_L_test_th {p : Program} {s : State} {m : MethodId} {args : Array Value} {meth : Method} {c : Code} {D : va_G} {tys : List (ClassId × FieldType)} {R : Room} {kc : Nat} {q : Nat} (C : XC p R s m args meth c cL_test 6 (some .int) RL wsL_test D tys) : CallW (rm_L_test kc) s args RL RX5 70 yX5_test cX5_test 4 (some .int) wsX5_test (rm_X5_test (q + 1)) 1 6 3 := cwV 3 C.2.2.2.2.1 gL_test_X5_test rfl rfl rfl (by decide +kernel) ⟨Nat.le_of_ble_eq_true rfl, Nat.le_of_ble_eq_true rfl⟩
theorem hk_L_test_15 : Cond.classLink RL 15 (exN 1) ∈ wsL_test := by decide +kernel
theorem hk_L_test_17 : Cond.classLink RL 17 (exN 2) ∈ wsL_test := by decide +kernel
set_option maxHeartbeats 4000000 in
set_option maxRecDepth 100000 in
theorem c_L_test_ok {l : Launch} {D : va_G} {cI cZ cJ : ClassId} {ad : Nat → Nat} {S : St} {rest : va_W} {ao : Nat} {fo : Nat → Int64} {x1 x2 x3 : Int32} {v : Int32} {S' : St} (hfl : l.stackTraces = false) (h : X5_test S x1 x2 x3 = some (0, v, S')) : ∀ sz, Met l yL_test wsL_test (rm_L_test 0) (PY D (t3 cI cZ cJ) [.ref (ad 32), .int x1, .int x2, .int x3, .ref ao] (wE cI cZ ad S (eo ad (ad 0) (ad 7) (oc ao cJ fo rest))) sz) (QI D (t3 cI cZ cJ) (wE cI cZ ad S (eo ad (ad 0) (ad 7) (oc ao cJ fo rest))) (wE cI cZ ad S' (eo ad (ad 0) (ad 7) (oc ao cJ (vp_updL fo 0 v.toInt64) rest))) sz 0) 0 0 (va_A (wE cI cZ ad S (eo ad (ad 0) (ad 7) (oc ao cJ fo rest))) sz) := by
  refine x_metH hfl (Qc := fun sz => QI D (t3 cI cZ cJ) (wE cI cZ ad S (eo ad (ad 0) (ad 7) (oc ao cJ fo rest))) (wE cI cZ ad S' (eo ad (ad 0) (ad 7) (oc ao cJ (vp_updL fo 0 v.toInt64) rest))) sz 0) RL rfl (by decide) rfl (Nat.le_of_ble_eq_true rfl) (fun p e s m args below meth c C T => ?_)
  refine x_aload C 4 dL_test_0 rfl ?_
  refine x_iconst C (v := 0) dL_test_2 (by decide) ?_
  refine x_aload_n C 0 dL_test_3 rfl ?_
  refine x_iload_n C 1 dL_test_4 rfl ?_
  refine x_iload_n C 2 dL_test_5 rfl ?_
  refine x_iload_n C 3 dL_test_6 rfl ?_
  refine x_ci0 (x_runV C (As := [.int x1, .int x2, .int x3]) (rest := [.int 0, .ref ao]) (c_X5_test_ok h) (cw_L_test C) 32 rfl rfl rfl (Nat.le_of_ble_eq_true rfl) dL_test_7 ⟨Nat.zero_le _, Nat.zero_le _⟩) ?_
  refine x_i2l C dL_test_10 ?_
  refine x_last C 33 rfl (show ¬ ((0:Int32) < 0 ∨ 1 ≤ (0:Int32).toNatClampNeg) by decide) dL_test_11 (x := v.toInt64) (w' := (wE cI cZ ad S' (eo ad (ad 0) (ad 7) (oc ao cJ (vp_updL fo 0 v.toInt64) rest)))) rfl ?_
  refine x_goto C (t := 23) dL_test_12 (by decide) ?_
  refine x_iconst C (v := 0) dL_test_23 (by decide) ?_
  exact x_iret C dL_test_24
set_option maxHeartbeats 4000000 in
set_option maxRecDepth 100000 in
theorem c_L_test_th1 {l : Launch} {D : va_G} {cI cZ cJ : ClassId} {ad : Nat → Nat} {S : St} {rest : va_W} {ao : Nat} {fo : Nat → Int64} {x1 x2 x3 : Int32} {v : Int32} {S' : St} (hfl : l.stackTraces = false) (h : X5_test S x1 x2 x3 = some (2, v, S')) : ∀ sz, Met l yL_test wsL_test (rm_L_test 1) (PY D (t3 cI cZ cJ) [.ref (ad 32), .int x1, .int x2, .int x3, .ref ao] (wE cI cZ ad S (eo ad (ad 0) (ad 7) (oc ao cJ fo rest))) sz) (QI D (t3 cI cZ cJ) (wE cI cZ ad S (eo ad (ad 0) (ad 7) (oc ao cJ fo rest))) (wE cI cZ ad S' (eo ad (ad 0) (ad 7) (oc ao cJ fo rest))) sz 1) 1 6 (va_A (wE cI cZ ad S (eo ad (ad 0) (ad 7) (oc ao cJ fo rest))) sz) := by
  refine x_metH hfl (Qc := fun sz => QI D (t3 cI cZ cJ) (wE cI cZ ad S (eo ad (ad 0) (ad 7) (oc ao cJ fo rest))) (wE cI cZ ad S' (eo ad (ad 0) (ad 7) (oc ao cJ fo rest))) sz 1) RL rfl (by decide) rfl (Nat.le_of_ble_eq_true rfl) (fun p e s m args below meth c C T => ?_)
  refine x_aload C 4 dL_test_0 rfl ?_
  refine x_iconst C (v := 0) dL_test_2 (by decide) ?_
  refine x_aload_n C 0 dL_test_3 rfl ?_
  refine x_iload_n C 1 dL_test_4 rfl ?_
  refine x_iload_n C 2 dL_test_5 rfl ?_
  refine x_iload_n C 3 dL_test_6 rfl ?_
  refine x_catch C T (kk := 1) (x_runVX C T.2.2.1 (As := [.int x1, .int x2, .int x3]) (rest := [.int 0, .ref ao]) (c_X5_test_th hfl h) (cw_L_test_th C) 32 rfl rfl rfl (Nat.le_of_ble_eq_true rfl) dL_test_7 ⟨Nat.le_refl _, Nat.le_refl _⟩) (tableOf []) ⟨0, 12, 15, 15⟩ (tableOf [(0, 12, 19, 17)]) rfl (fun z hz => nomatch hz) (by decide) (by decide) hk_L_test_15 (fun q => ?_)
  refine x_astore C (lv' := [(0, .ref (ad 32)), (1, .int x1), (2, .int x2), (3, .int x3), (4, .ref ao), (5, .ref q)]) dL_test_15 (by decide) rfl ?_
  refine x_iconst C (v := 1) dL_test_17 (by decide) ?_
  exact x_iret C dL_test_18
set_option maxHeartbeats 4000000 in
set_option maxRecDepth 100000 in
theorem c_L_test_th2 {l : Launch} {D : va_G} {cI cZ cJ : ClassId} {ad : Nat → Nat} {S : St} {rest : va_W} {ao : Nat} {fo : Nat → Int64} {x1 x2 x3 : Int32} {v : Int32} {S' : St} (hfl : l.stackTraces = false) (h : X5_test S x1 x2 x3 = some (3, v, S')) : ∀ sz, Met l yL_test wsL_test (rm_L_test 1) (PY D (t3 cI cZ cJ) [.ref (ad 32), .int x1, .int x2, .int x3, .ref ao] (wE cI cZ ad S (eo ad (ad 0) (ad 7) (oc ao cJ fo rest))) sz) (QI D (t3 cI cZ cJ) (wE cI cZ ad S (eo ad (ad 0) (ad 7) (oc ao cJ fo rest))) (wE cI cZ ad S' (eo ad (ad 0) (ad 7) (oc ao cJ fo rest))) sz 2) 1 6 (va_A (wE cI cZ ad S (eo ad (ad 0) (ad 7) (oc ao cJ fo rest))) sz) := by
  refine x_metH hfl (Qc := fun sz => QI D (t3 cI cZ cJ) (wE cI cZ ad S (eo ad (ad 0) (ad 7) (oc ao cJ fo rest))) (wE cI cZ ad S' (eo ad (ad 0) (ad 7) (oc ao cJ fo rest))) sz 2) RL rfl (by decide) rfl (Nat.le_of_ble_eq_true rfl) (fun p e s m args below meth c C T => ?_)
  refine x_aload C 4 dL_test_0 rfl ?_
  refine x_iconst C (v := 0) dL_test_2 (by decide) ?_
  refine x_aload_n C 0 dL_test_3 rfl ?_
  refine x_iload_n C 1 dL_test_4 rfl ?_
  refine x_iload_n C 2 dL_test_5 rfl ?_
  refine x_iload_n C 3 dL_test_6 rfl ?_
  refine x_catch C T (kk := 2) (x_runVX C T.2.2.1 (As := [.int x1, .int x2, .int x3]) (rest := [.int 0, .ref ao]) (c_X5_test_th hfl h) (cw_L_test_th C) 32 rfl rfl rfl (Nat.le_of_ble_eq_true rfl) dL_test_7 ⟨Nat.le_refl _, Nat.le_refl _⟩) (tableOf [(0, 12, 15, 15)]) ⟨0, 12, 19, 17⟩ (tableOf []) rfl (fun z hz => by
    rcases List.mem_cons.mp hz with rfl | hz
    · exact ⟨by decide, _, hk_L_test_15, T.2.2.2 2 1 (by decide) (by decide) (by decide)⟩
    exact nomatch hz) (by decide) (by decide) hk_L_test_17 (fun q => ?_)
  refine x_astore C (lv' := [(0, .ref (ad 32)), (1, .int x1), (2, .int x2), (3, .int x3), (4, .ref ao), (5, .ref q)]) dL_test_19 (by decide) rfl ?_
  refine x_iconst C (v := 2) dL_test_21 (by decide) ?_
  exact x_iret C dL_test_22
/-! the law's join -/
def rm_L_join (kc : Nat) : Room := rmf 8 127 kc
theorem cw_L_join {p : Program} {s : State} {m : MethodId} {args : Array Value} {meth : Method} {c : Code} {D : va_G} {tys : List (ClassId × FieldType)} {R : Room} {kc : Nat} (C : XC p R s m args meth c cL_join 6 (some .int) RL wsL_join D tys) : CallW (rm_L_join kc) s args RL RX5 73 yX5_join cX5_join 4 (some .int) wsX5_join (rm_X5_join 0) 0 0 3 := cwV 3 C.2.2.2.2.1 gL_join_X5_join rfl rfl rfl (by decide +kernel) ⟨Nat.le_of_ble_eq_true rfl, Nat.le_of_ble_eq_true rfl⟩
theorem cw_L_join_th {p : Program} {s : State} {m : MethodId} {args : Array Value} {meth : Method} {c : Code} {D : va_G} {tys : List (ClassId × FieldType)} {R : Room} {kc : Nat} {q : Nat} (C : XC p R s m args meth c cL_join 6 (some .int) RL wsL_join D tys) : CallW (rm_L_join kc) s args RL RX5 73 yX5_join cX5_join 4 (some .int) wsX5_join (rm_X5_join (q + 1)) 1 6 3 := cwV 3 C.2.2.2.2.1 gL_join_X5_join rfl rfl rfl (by decide +kernel) ⟨Nat.le_of_ble_eq_true rfl, Nat.le_of_ble_eq_true rfl⟩
theorem hk_L_join_13 : Cond.classLink RL 13 (exN 0) ∈ wsL_join := by decide +kernel
theorem hk_L_join_15 : Cond.classLink RL 15 (exN 1) ∈ wsL_join := by decide +kernel
theorem hk_L_join_17 : Cond.classLink RL 17 (exN 2) ∈ wsL_join := by decide +kernel
set_option maxHeartbeats 4000000 in
set_option maxRecDepth 100000 in
theorem c_L_join_ok {l : Launch} {D : va_G} {cI cZ cJ : ClassId} {ad : Nat → Nat} {S : St} {rest : va_W} {ao : Nat} {fo : Nat → Int64} {x1 x2 x3 : Int32} {v : Int32} {S' : St} (hfl : l.stackTraces = false) (h : X5_join S x1 x2 x3 = some (0, v, S')) : ∀ sz, Met l yL_join wsL_join (rm_L_join 0) (PY D (t3 cI cZ cJ) [.ref (ad 32), .int x1, .int x2, .int x3, .ref ao] (wE cI cZ ad S (eo ad (ad 0) (ad 7) (oc ao cJ fo rest))) sz) (QI D (t3 cI cZ cJ) (wE cI cZ ad S (eo ad (ad 0) (ad 7) (oc ao cJ fo rest))) (wE cI cZ ad S' (eo ad (ad 0) (ad 7) (oc ao cJ (vp_updL fo 0 v.toInt64) rest))) sz 0) 0 0 (va_A (wE cI cZ ad S (eo ad (ad 0) (ad 7) (oc ao cJ fo rest))) sz) := by
  refine x_metH hfl (Qc := fun sz => QI D (t3 cI cZ cJ) (wE cI cZ ad S (eo ad (ad 0) (ad 7) (oc ao cJ fo rest))) (wE cI cZ ad S' (eo ad (ad 0) (ad 7) (oc ao cJ (vp_updL fo 0 v.toInt64) rest))) sz 0) RL rfl (by decide) rfl (Nat.le_of_ble_eq_true rfl) (fun p e s m args below meth c C T => ?_)
  refine x_aload C 4 dL_join_0 rfl ?_
  refine x_iconst C (v := 0) dL_join_2 (by decide) ?_
  refine x_aload_n C 0 dL_join_3 rfl ?_
  refine x_iload_n C 1 dL_join_4 rfl ?_
  refine x_iload_n C 2 dL_join_5 rfl ?_
  refine x_iload_n C 3 dL_join_6 rfl ?_
  refine x_ci0 (x_runV C (As := [.int x1, .int x2, .int x3]) (rest := [.int 0, .ref ao]) (c_X5_join_ok h) (cw_L_join C) 32 rfl rfl rfl (Nat.le_of_ble_eq_true rfl) dL_join_7 ⟨Nat.zero_le _, Nat.zero_le _⟩) ?_
  refine x_i2l C dL_join_10 ?_
  refine x_last C 33 rfl (show ¬ ((0:Int32) < 0 ∨ 1 ≤ (0:Int32).toNatClampNeg) by decide) dL_join_11 (x := v.toInt64) (w' := (wE cI cZ ad S' (eo ad (ad 0) (ad 7) (oc ao cJ (vp_updL fo 0 v.toInt64) rest)))) rfl ?_
  refine x_goto C (t := 27) dL_join_12 (by decide) ?_
  refine x_iconst C (v := 0) dL_join_27 (by decide) ?_
  exact x_iret C dL_join_28
set_option maxHeartbeats 4000000 in
set_option maxRecDepth 100000 in
theorem c_L_join_th0 {l : Launch} {D : va_G} {cI cZ cJ : ClassId} {ad : Nat → Nat} {S : St} {rest : va_W} {ao : Nat} {fo : Nat → Int64} {x1 x2 x3 : Int32} {v : Int32} {S' : St} (hfl : l.stackTraces = false) (h : X5_join S x1 x2 x3 = some (1, v, S')) : ∀ sz, Met l yL_join wsL_join (rm_L_join 1) (PY D (t3 cI cZ cJ) [.ref (ad 32), .int x1, .int x2, .int x3, .ref ao] (wE cI cZ ad S (eo ad (ad 0) (ad 7) (oc ao cJ fo rest))) sz) (QI D (t3 cI cZ cJ) (wE cI cZ ad S (eo ad (ad 0) (ad 7) (oc ao cJ fo rest))) (wE cI cZ ad S' (eo ad (ad 0) (ad 7) (oc ao cJ fo rest))) sz 1) 1 6 (va_A (wE cI cZ ad S (eo ad (ad 0) (ad 7) (oc ao cJ fo rest))) sz) := by
  refine x_metH hfl (Qc := fun sz => QI D (t3 cI cZ cJ) (wE cI cZ ad S (eo ad (ad 0) (ad 7) (oc ao cJ fo rest))) (wE cI cZ ad S' (eo ad (ad 0) (ad 7) (oc ao cJ fo rest))) sz 1) RL rfl (by decide) rfl (Nat.le_of_ble_eq_true rfl) (fun p e s m args below meth c C T => ?_)
  refine x_aload C 4 dL_join_0 rfl ?_
  refine x_iconst C (v := 0) dL_join_2 (by decide) ?_
  refine x_aload_n C 0 dL_join_3 rfl ?_
  refine x_iload_n C 1 dL_join_4 rfl ?_
  refine x_iload_n C 2 dL_join_5 rfl ?_
  refine x_iload_n C 3 dL_join_6 rfl ?_
  refine x_catch C T (kk := 0) (x_runVX C T.2.2.1 (As := [.int x1, .int x2, .int x3]) (rest := [.int 0, .ref ao]) (c_X5_join_th hfl h) (cw_L_join_th C) 32 rfl rfl rfl (Nat.le_of_ble_eq_true rfl) dL_join_7 ⟨Nat.le_refl _, Nat.le_refl _⟩) (tableOf []) ⟨0, 12, 15, 13⟩ (tableOf [(0, 12, 19, 15), (0, 12, 23, 17)]) rfl (fun z hz => nomatch hz) (by decide) (by decide) hk_L_join_13 (fun q => ?_)
  refine x_astore C (lv' := [(0, .ref (ad 32)), (1, .int x1), (2, .int x2), (3, .int x3), (4, .ref ao), (5, .ref q)]) dL_join_15 (by decide) rfl ?_
  refine x_iconst C (v := 1) dL_join_17 (by decide) ?_
  exact x_iret C dL_join_18
set_option maxHeartbeats 4000000 in
set_option maxRecDepth 100000 in
theorem c_L_join_th1 {l : Launch} {D : va_G} {cI cZ cJ : ClassId} {ad : Nat → Nat} {S : St} {rest : va_W} {ao : Nat} {fo : Nat → Int64} {x1 x2 x3 : Int32} {v : Int32} {S' : St} (hfl : l.stackTraces = false) (h : X5_join S x1 x2 x3 = some (2, v, S')) : ∀ sz, Met l yL_join wsL_join (rm_L_join 1) (PY D (t3 cI cZ cJ) [.ref (ad 32), .int x1, .int x2, .int x3, .ref ao] (wE cI cZ ad S (eo ad (ad 0) (ad 7) (oc ao cJ fo rest))) sz) (QI D (t3 cI cZ cJ) (wE cI cZ ad S (eo ad (ad 0) (ad 7) (oc ao cJ fo rest))) (wE cI cZ ad S' (eo ad (ad 0) (ad 7) (oc ao cJ fo rest))) sz 2) 1 6 (va_A (wE cI cZ ad S (eo ad (ad 0) (ad 7) (oc ao cJ fo rest))) sz) := by
  refine x_metH hfl (Qc := fun sz => QI D (t3 cI cZ cJ) (wE cI cZ ad S (eo ad (ad 0) (ad 7) (oc ao cJ fo rest))) (wE cI cZ ad S' (eo ad (ad 0) (ad 7) (oc ao cJ fo rest))) sz 2) RL rfl (by decide) rfl (Nat.le_of_ble_eq_true rfl) (fun p e s m args below meth c C T => ?_)
  refine x_aload C 4 dL_join_0 rfl ?_
  refine x_iconst C (v := 0) dL_join_2 (by decide) ?_
  refine x_aload_n C 0 dL_join_3 rfl ?_
  refine x_iload_n C 1 dL_join_4 rfl ?_
  refine x_iload_n C 2 dL_join_5 rfl ?_
  refine x_iload_n C 3 dL_join_6 rfl ?_
  refine x_catch C T (kk := 1) (x_runVX C T.2.2.1 (As := [.int x1, .int x2, .int x3]) (rest := [.int 0, .ref ao]) (c_X5_join_th hfl h) (cw_L_join_th C) 32 rfl rfl rfl (Nat.le_of_ble_eq_true rfl) dL_join_7 ⟨Nat.le_refl _, Nat.le_refl _⟩) (tableOf [(0, 12, 15, 13)]) ⟨0, 12, 19, 15⟩ (tableOf [(0, 12, 23, 17)]) rfl (fun z hz => by
    rcases List.mem_cons.mp hz with rfl | hz
    · exact ⟨by decide, _, hk_L_join_13, T.2.2.2 1 0 (by decide) (by decide) (by decide)⟩
    exact nomatch hz) (by decide) (by decide) hk_L_join_15 (fun q => ?_)
  refine x_astore C (lv' := [(0, .ref (ad 32)), (1, .int x1), (2, .int x2), (3, .int x3), (4, .ref ao), (5, .ref q)]) dL_join_19 (by decide) rfl ?_
  refine x_iconst C (v := 2) dL_join_21 (by decide) ?_
  exact x_iret C dL_join_22
set_option maxHeartbeats 4000000 in
set_option maxRecDepth 100000 in
theorem c_L_join_th2 {l : Launch} {D : va_G} {cI cZ cJ : ClassId} {ad : Nat → Nat} {S : St} {rest : va_W} {ao : Nat} {fo : Nat → Int64} {x1 x2 x3 : Int32} {v : Int32} {S' : St} (hfl : l.stackTraces = false) (h : X5_join S x1 x2 x3 = some (3, v, S')) : ∀ sz, Met l yL_join wsL_join (rm_L_join 1) (PY D (t3 cI cZ cJ) [.ref (ad 32), .int x1, .int x2, .int x3, .ref ao] (wE cI cZ ad S (eo ad (ad 0) (ad 7) (oc ao cJ fo rest))) sz) (QI D (t3 cI cZ cJ) (wE cI cZ ad S (eo ad (ad 0) (ad 7) (oc ao cJ fo rest))) (wE cI cZ ad S' (eo ad (ad 0) (ad 7) (oc ao cJ fo rest))) sz 3) 1 6 (va_A (wE cI cZ ad S (eo ad (ad 0) (ad 7) (oc ao cJ fo rest))) sz) := by
  refine x_metH hfl (Qc := fun sz => QI D (t3 cI cZ cJ) (wE cI cZ ad S (eo ad (ad 0) (ad 7) (oc ao cJ fo rest))) (wE cI cZ ad S' (eo ad (ad 0) (ad 7) (oc ao cJ fo rest))) sz 3) RL rfl (by decide) rfl (Nat.le_of_ble_eq_true rfl) (fun p e s m args below meth c C T => ?_)
  refine x_aload C 4 dL_join_0 rfl ?_
  refine x_iconst C (v := 0) dL_join_2 (by decide) ?_
  refine x_aload_n C 0 dL_join_3 rfl ?_
  refine x_iload_n C 1 dL_join_4 rfl ?_
  refine x_iload_n C 2 dL_join_5 rfl ?_
  refine x_iload_n C 3 dL_join_6 rfl ?_
  refine x_catch C T (kk := 2) (x_runVX C T.2.2.1 (As := [.int x1, .int x2, .int x3]) (rest := [.int 0, .ref ao]) (c_X5_join_th hfl h) (cw_L_join_th C) 32 rfl rfl rfl (Nat.le_of_ble_eq_true rfl) dL_join_7 ⟨Nat.le_refl _, Nat.le_refl _⟩) (tableOf [(0, 12, 15, 13), (0, 12, 19, 15)]) ⟨0, 12, 23, 17⟩ (tableOf []) rfl (fun z hz => by
    rcases List.mem_cons.mp hz with rfl | hz
    · exact ⟨by decide, _, hk_L_join_13, T.2.2.2 2 0 (by decide) (by decide) (by decide)⟩
    rcases List.mem_cons.mp hz with rfl | hz
    · exact ⟨by decide, _, hk_L_join_15, T.2.2.2 2 1 (by decide) (by decide) (by decide)⟩
    exact nomatch hz) (by decide) (by decide) hk_L_join_17 (fun q => ?_)
  refine x_astore C (lv' := [(0, .ref (ad 32)), (1, .int x1), (2, .int x2), (3, .int x3), (4, .ref ao), (5, .ref q)]) dL_join_23 (by decide) rfl ?_
  refine x_iconst C (v := 3) dL_join_25 (by decide) ?_
  exact x_iret C dL_join_26
/-! the law's holds -/
def rm_L_holds (kc : Nat) : Room := rmf 9 148 kc
theorem cw_L_holds {p : Program} {s : State} {m : MethodId} {args : Array Value} {meth : Method} {c : Code} {D : va_G} {tys : List (ClassId × FieldType)} {R : Room} {kc : Nat} (C : XC p R s m args meth c cL_holds 6 (some .int) RL wsL_holds D tys) : CallW (rm_L_holds kc) s args RL RX5 76 yX5_holds cX5_holds 5 (some .int) wsX5_holds (rm_X5_holds 0) 0 0 3 := cwV 3 C.2.2.2.2.1 gL_holds_X5_holds rfl rfl rfl (by decide +kernel) ⟨Nat.le_of_ble_eq_true rfl, Nat.le_of_ble_eq_true rfl⟩
theorem cw_L_holds_th {p : Program} {s : State} {m : MethodId} {args : Array Value} {meth : Method} {c : Code} {D : va_G} {tys : List (ClassId × FieldType)} {R : Room} {kc : Nat} {q : Nat} (C : XC p R s m args meth c cL_holds 6 (some .int) RL wsL_holds D tys) : CallW (rm_L_holds kc) s args RL RX5 76 yX5_holds cX5_holds 5 (some .int) wsX5_holds (rm_X5_holds (q + 1)) 1 6 3 := cwV 3 C.2.2.2.2.1 gL_holds_X5_holds rfl rfl rfl (by decide +kernel) ⟨Nat.le_of_ble_eq_true rfl, Nat.le_of_ble_eq_true rfl⟩
theorem hk_L_holds_13 : Cond.classLink RL 13 (exN 0) ∈ wsL_holds := by decide +kernel
set_option maxHeartbeats 4000000 in
set_option maxRecDepth 100000 in
theorem c_L_holds_ok {l : Launch} {D : va_G} {cI cZ cJ : ClassId} {ad : Nat → Nat} {S : St} {rest : va_W} {ao : Nat} {fo : Nat → Int64} {x1 x2 x3 : Int32} {v : Int32} {S' : St} (hfl : l.stackTraces = false) (h : X5_holds S x1 x2 x3 = some (0, v, S')) : ∀ sz, Met l yL_holds wsL_holds (rm_L_holds 0) (PY D (t3 cI cZ cJ) [.ref (ad 32), .int x1, .int x2, .int x3, .ref ao] (wE cI cZ ad S (eo ad (ad 0) (ad 7) (oc ao cJ fo rest))) sz) (QI D (t3 cI cZ cJ) (wE cI cZ ad S (eo ad (ad 0) (ad 7) (oc ao cJ fo rest))) (wE cI cZ ad S' (eo ad (ad 0) (ad 7) (oc ao cJ (vp_updL fo 0 v.toInt64) rest))) sz 0) 0 0 (va_A (wE cI cZ ad S (eo ad (ad 0) (ad 7) (oc ao cJ fo rest))) sz) := by
  refine x_metH hfl (Qc := fun sz => QI D (t3 cI cZ cJ) (wE cI cZ ad S (eo ad (ad 0) (ad 7) (oc ao cJ fo rest))) (wE cI cZ ad S' (eo ad (ad 0) (ad 7) (oc ao cJ (vp_updL fo 0 v.toInt64) rest))) sz 0) RL rfl (by decide) rfl (Nat.le_of_ble_eq_true rfl) (fun p e s m args below meth c C T => ?_)
  refine x_aload C 4 dL_holds_0 rfl ?_
  refine x_iconst C (v := 0) dL_holds_2 (by decide) ?_
  refine x_aload_n C 0 dL_holds_3 rfl ?_
  refine x_iload_n C 1 dL_holds_4 rfl ?_
  refine x_iload_n C 2 dL_holds_5 rfl ?_
  refine x_iload_n C 3 dL_holds_6 rfl ?_
  refine x_ci0 (x_runV C (As := [.int x1, .int x2, .int x3]) (rest := [.int 0, .ref ao]) (c_X5_holds_ok h) (cw_L_holds C) 32 rfl rfl rfl (Nat.le_of_ble_eq_true rfl) dL_holds_7 ⟨Nat.zero_le _, Nat.zero_le _⟩) ?_
  refine x_i2l C dL_holds_10 ?_
  refine x_last C 33 rfl (show ¬ ((0:Int32) < 0 ∨ 1 ≤ (0:Int32).toNatClampNeg) by decide) dL_holds_11 (x := v.toInt64) (w' := (wE cI cZ ad S' (eo ad (ad 0) (ad 7) (oc ao cJ (vp_updL fo 0 v.toInt64) rest)))) rfl ?_
  refine x_goto C (t := 19) dL_holds_12 (by decide) ?_
  refine x_iconst C (v := 0) dL_holds_19 (by decide) ?_
  exact x_iret C dL_holds_20
set_option maxHeartbeats 4000000 in
set_option maxRecDepth 100000 in
theorem c_L_holds_th0 {l : Launch} {D : va_G} {cI cZ cJ : ClassId} {ad : Nat → Nat} {S : St} {rest : va_W} {ao : Nat} {fo : Nat → Int64} {x1 x2 x3 : Int32} {v : Int32} {S' : St} (hfl : l.stackTraces = false) (h : X5_holds S x1 x2 x3 = some (1, v, S')) : ∀ sz, Met l yL_holds wsL_holds (rm_L_holds 1) (PY D (t3 cI cZ cJ) [.ref (ad 32), .int x1, .int x2, .int x3, .ref ao] (wE cI cZ ad S (eo ad (ad 0) (ad 7) (oc ao cJ fo rest))) sz) (QI D (t3 cI cZ cJ) (wE cI cZ ad S (eo ad (ad 0) (ad 7) (oc ao cJ fo rest))) (wE cI cZ ad S' (eo ad (ad 0) (ad 7) (oc ao cJ fo rest))) sz 1) 1 6 (va_A (wE cI cZ ad S (eo ad (ad 0) (ad 7) (oc ao cJ fo rest))) sz) := by
  refine x_metH hfl (Qc := fun sz => QI D (t3 cI cZ cJ) (wE cI cZ ad S (eo ad (ad 0) (ad 7) (oc ao cJ fo rest))) (wE cI cZ ad S' (eo ad (ad 0) (ad 7) (oc ao cJ fo rest))) sz 1) RL rfl (by decide) rfl (Nat.le_of_ble_eq_true rfl) (fun p e s m args below meth c C T => ?_)
  refine x_aload C 4 dL_holds_0 rfl ?_
  refine x_iconst C (v := 0) dL_holds_2 (by decide) ?_
  refine x_aload_n C 0 dL_holds_3 rfl ?_
  refine x_iload_n C 1 dL_holds_4 rfl ?_
  refine x_iload_n C 2 dL_holds_5 rfl ?_
  refine x_iload_n C 3 dL_holds_6 rfl ?_
  refine x_catch C T (kk := 0) (x_runVX C T.2.2.1 (As := [.int x1, .int x2, .int x3]) (rest := [.int 0, .ref ao]) (c_X5_holds_th hfl h) (cw_L_holds_th C) 32 rfl rfl rfl (Nat.le_of_ble_eq_true rfl) dL_holds_7 ⟨Nat.le_refl _, Nat.le_refl _⟩) (tableOf []) ⟨0, 12, 15, 13⟩ (tableOf []) rfl (fun z hz => nomatch hz) (by decide) (by decide) hk_L_holds_13 (fun q => ?_)
  refine x_astore C (lv' := [(0, .ref (ad 32)), (1, .int x1), (2, .int x2), (3, .int x3), (4, .ref ao), (5, .ref q)]) dL_holds_15 (by decide) rfl ?_
  refine x_iconst C (v := 1) dL_holds_17 (by decide) ?_
  exact x_iret C dL_holds_18
/-! the law's search -/
def rm_L_search (kc : Nat) : Room := rmf 9 171 kc
theorem cw_L_search {p : Program} {s : State} {m : MethodId} {args : Array Value} {meth : Method} {c : Code} {D : va_G} {tys : List (ClassId × FieldType)} {R : Room} {kc : Nat} (C : XC p R s m args meth c cL_search 9 (some .int) RL wsL_search D tys) : CallW (rm_L_search kc) s args RL RX5 79 yX5_search cX5_search 11 (some .int) wsX5_search (rm_X5_search 0) 0 0 6 := cwV 6 C.2.2.2.2.1 gL_search_X5_search rfl rfl rfl (by decide +kernel) ⟨Nat.le_of_ble_eq_true rfl, Nat.le_of_ble_eq_true rfl⟩
theorem cw_L_search_th {p : Program} {s : State} {m : MethodId} {args : Array Value} {meth : Method} {c : Code} {D : va_G} {tys : List (ClassId × FieldType)} {R : Room} {kc : Nat} {q : Nat} (C : XC p R s m args meth c cL_search 9 (some .int) RL wsL_search D tys) : CallW (rm_L_search kc) s args RL RX5 79 yX5_search cX5_search 11 (some .int) wsX5_search (rm_X5_search (q + 1)) 1 6 6 := cwV 6 C.2.2.2.2.1 gL_search_X5_search rfl rfl rfl (by decide +kernel) ⟨Nat.le_of_ble_eq_true rfl, Nat.le_of_ble_eq_true rfl⟩
theorem hk_L_search_13 : Cond.classLink RL 13 (exN 0) ∈ wsL_search := by decide +kernel
theorem hk_L_search_15 : Cond.classLink RL 15 (exN 1) ∈ wsL_search := by decide +kernel
set_option maxHeartbeats 4000000 in
set_option maxRecDepth 100000 in
theorem c_L_search_ok {l : Launch} {D : va_G} {cI cZ cJ : ClassId} {ad : Nat → Nat} {S : St} {rest : va_W} {ao : Nat} {fo : Nat → Int64} {x1 x2 x3 x4 x5 x6 : Int32} {v : Int32} {S' : St} (hfl : l.stackTraces = false) (h : X5_search S x1 x2 x3 x4 x5 x6 = some (0, v, S')) : ∀ sz, Met l yL_search wsL_search (rm_L_search 0) (PY D (t3 cI cZ cJ) [.ref (ad 32), .int x1, .int x2, .int x3, .int x4, .int x5, .int x6, .ref ao] (wE cI cZ ad S (eo ad (ad 0) (ad 7) (oc ao cJ fo rest))) sz) (QI D (t3 cI cZ cJ) (wE cI cZ ad S (eo ad (ad 0) (ad 7) (oc ao cJ fo rest))) (wE cI cZ ad S' (eo ad (ad 0) (ad 7) (oc ao cJ (vp_updL fo 0 v.toInt64) rest))) sz 0) 0 0 (va_A (wE cI cZ ad S (eo ad (ad 0) (ad 7) (oc ao cJ fo rest))) sz) := by
  refine x_metH hfl (Qc := fun sz => QI D (t3 cI cZ cJ) (wE cI cZ ad S (eo ad (ad 0) (ad 7) (oc ao cJ fo rest))) (wE cI cZ ad S' (eo ad (ad 0) (ad 7) (oc ao cJ (vp_updL fo 0 v.toInt64) rest))) sz 0) RL rfl (by decide) rfl (Nat.le_of_ble_eq_true rfl) (fun p e s m args below meth c C T => ?_)
  refine x_aload C 7 dL_search_0 rfl ?_
  refine x_iconst C (v := 0) dL_search_2 (by decide) ?_
  refine x_aload_n C 0 dL_search_3 rfl ?_
  refine x_iload_n C 1 dL_search_4 rfl ?_
  refine x_iload_n C 2 dL_search_5 rfl ?_
  refine x_iload_n C 3 dL_search_6 rfl ?_
  refine x_iload C 4 dL_search_7 rfl ?_
  refine x_iload C 5 dL_search_9 rfl ?_
  refine x_iload C 6 dL_search_11 rfl ?_
  refine x_ci0 (x_runV C (As := [.int x1, .int x2, .int x3, .int x4, .int x5, .int x6]) (rest := [.int 0, .ref ao]) (c_X5_search_ok h) (cw_L_search C) 32 rfl rfl rfl (Nat.le_of_ble_eq_true rfl) dL_search_13 ⟨Nat.zero_le _, Nat.zero_le _⟩) ?_
  refine x_i2l C dL_search_16 ?_
  refine x_last C 33 rfl (show ¬ ((0:Int32) < 0 ∨ 1 ≤ (0:Int32).toNatClampNeg) by decide) dL_search_17 (x := v.toInt64) (w' := (wE cI cZ ad S' (eo ad (ad 0) (ad 7) (oc ao cJ (vp_updL fo 0 v.toInt64) rest)))) rfl ?_
  refine x_goto C (t := 29) dL_search_18 (by decide) ?_
  refine x_iconst C (v := 0) dL_search_29 (by decide) ?_
  exact x_iret C dL_search_30
set_option maxHeartbeats 4000000 in
set_option maxRecDepth 100000 in
theorem c_L_search_th0 {l : Launch} {D : va_G} {cI cZ cJ : ClassId} {ad : Nat → Nat} {S : St} {rest : va_W} {ao : Nat} {fo : Nat → Int64} {x1 x2 x3 x4 x5 x6 : Int32} {v : Int32} {S' : St} (hfl : l.stackTraces = false) (h : X5_search S x1 x2 x3 x4 x5 x6 = some (1, v, S')) : ∀ sz, Met l yL_search wsL_search (rm_L_search 1) (PY D (t3 cI cZ cJ) [.ref (ad 32), .int x1, .int x2, .int x3, .int x4, .int x5, .int x6, .ref ao] (wE cI cZ ad S (eo ad (ad 0) (ad 7) (oc ao cJ fo rest))) sz) (QI D (t3 cI cZ cJ) (wE cI cZ ad S (eo ad (ad 0) (ad 7) (oc ao cJ fo rest))) (wE cI cZ ad S' (eo ad (ad 0) (ad 7) (oc ao cJ fo rest))) sz 1) 1 6 (va_A (wE cI cZ ad S (eo ad (ad 0) (ad 7) (oc ao cJ fo rest))) sz) := by
  refine x_metH hfl (Qc := fun sz => QI D (t3 cI cZ cJ) (wE cI cZ ad S (eo ad (ad 0) (ad 7) (oc ao cJ fo rest))) (wE cI cZ ad S' (eo ad (ad 0) (ad 7) (oc ao cJ fo rest))) sz 1) RL rfl (by decide) rfl (Nat.le_of_ble_eq_true rfl) (fun p e s m args below meth c C T => ?_)
  refine x_aload C 7 dL_search_0 rfl ?_
  refine x_iconst C (v := 0) dL_search_2 (by decide) ?_
  refine x_aload_n C 0 dL_search_3 rfl ?_
  refine x_iload_n C 1 dL_search_4 rfl ?_
  refine x_iload_n C 2 dL_search_5 rfl ?_
  refine x_iload_n C 3 dL_search_6 rfl ?_
  refine x_iload C 4 dL_search_7 rfl ?_
  refine x_iload C 5 dL_search_9 rfl ?_
  refine x_iload C 6 dL_search_11 rfl ?_
  refine x_catch C T (kk := 0) (x_runVX C T.2.2.1 (As := [.int x1, .int x2, .int x3, .int x4, .int x5, .int x6]) (rest := [.int 0, .ref ao]) (c_X5_search_th hfl h) (cw_L_search_th C) 32 rfl rfl rfl (Nat.le_of_ble_eq_true rfl) dL_search_13 ⟨Nat.le_refl _, Nat.le_refl _⟩) (tableOf []) ⟨0, 18, 21, 13⟩ (tableOf [(0, 18, 25, 15)]) rfl (fun z hz => nomatch hz) (by decide) (by decide) hk_L_search_13 (fun q => ?_)
  refine x_astore C (lv' := [(0, .ref (ad 32)), (1, .int x1), (2, .int x2), (3, .int x3), (4, .int x4), (5, .int x5), (6, .int x6), (7, .ref ao), (8, .ref q)]) dL_search_21 (by decide) rfl ?_
  refine x_iconst C (v := 1) dL_search_23 (by decide) ?_
  exact x_iret C dL_search_24
set_option maxHeartbeats 4000000 in
set_option maxRecDepth 100000 in
theorem c_L_search_th1 {l : Launch} {D : va_G} {cI cZ cJ : ClassId} {ad : Nat → Nat} {S : St} {rest : va_W} {ao : Nat} {fo : Nat → Int64} {x1 x2 x3 x4 x5 x6 : Int32} {v : Int32} {S' : St} (hfl : l.stackTraces = false) (h : X5_search S x1 x2 x3 x4 x5 x6 = some (2, v, S')) : ∀ sz, Met l yL_search wsL_search (rm_L_search 1) (PY D (t3 cI cZ cJ) [.ref (ad 32), .int x1, .int x2, .int x3, .int x4, .int x5, .int x6, .ref ao] (wE cI cZ ad S (eo ad (ad 0) (ad 7) (oc ao cJ fo rest))) sz) (QI D (t3 cI cZ cJ) (wE cI cZ ad S (eo ad (ad 0) (ad 7) (oc ao cJ fo rest))) (wE cI cZ ad S' (eo ad (ad 0) (ad 7) (oc ao cJ fo rest))) sz 2) 1 6 (va_A (wE cI cZ ad S (eo ad (ad 0) (ad 7) (oc ao cJ fo rest))) sz) := by
  refine x_metH hfl (Qc := fun sz => QI D (t3 cI cZ cJ) (wE cI cZ ad S (eo ad (ad 0) (ad 7) (oc ao cJ fo rest))) (wE cI cZ ad S' (eo ad (ad 0) (ad 7) (oc ao cJ fo rest))) sz 2) RL rfl (by decide) rfl (Nat.le_of_ble_eq_true rfl) (fun p e s m args below meth c C T => ?_)
  refine x_aload C 7 dL_search_0 rfl ?_
  refine x_iconst C (v := 0) dL_search_2 (by decide) ?_
  refine x_aload_n C 0 dL_search_3 rfl ?_
  refine x_iload_n C 1 dL_search_4 rfl ?_
  refine x_iload_n C 2 dL_search_5 rfl ?_
  refine x_iload_n C 3 dL_search_6 rfl ?_
  refine x_iload C 4 dL_search_7 rfl ?_
  refine x_iload C 5 dL_search_9 rfl ?_
  refine x_iload C 6 dL_search_11 rfl ?_
  refine x_catch C T (kk := 1) (x_runVX C T.2.2.1 (As := [.int x1, .int x2, .int x3, .int x4, .int x5, .int x6]) (rest := [.int 0, .ref ao]) (c_X5_search_th hfl h) (cw_L_search_th C) 32 rfl rfl rfl (Nat.le_of_ble_eq_true rfl) dL_search_13 ⟨Nat.le_refl _, Nat.le_refl _⟩) (tableOf [(0, 18, 21, 13)]) ⟨0, 18, 25, 15⟩ (tableOf []) rfl (fun z hz => by
    rcases List.mem_cons.mp hz with rfl | hz
    · exact ⟨by decide, _, hk_L_search_13, T.2.2.2 1 0 (by decide) (by decide) (by decide)⟩
    exact nomatch hz) (by decide) (by decide) hk_L_search_15 (fun q => ?_)
  refine x_astore C (lv' := [(0, .ref (ad 32)), (1, .int x1), (2, .int x2), (3, .int x3), (4, .int x4), (5, .int x5), (6, .int x6), (7, .ref ao), (8, .ref q)]) dL_search_25 (by decide) rfl ?_
  refine x_iconst C (v := 2) dL_search_27 (by decide) ?_
  exact x_iret C dL_search_28
