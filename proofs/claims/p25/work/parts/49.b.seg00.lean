set_option maxHeartbeats 4000000 in
set_option maxRecDepth 100000 in
theorem svs0 {p : Program} {l : Launch} {e : Env} {s : State} {m : MethodId} {args : Array Value} {below : List Frame} {meth : Method} {c : Code} {D : va_G} {cI cZ cJ : ClassId} {ad : Nat → Nat} {S0 : St} {rest w0 : va_W} {Q : State → Prop} {kk jj : Nat} (hfl : l.stackTraces = false) (C : XC p rm_L_searches s m args meth c cL_searches 2 (some .boolean) RL wsL_searches D (t3 cI cZ cJ)) (hX : XS (va_A w0 s.heap.size) s s.heap) (hN : NC s) (h0 : CS S0 vv0) (hk : kk + 0 ≤ 487) (hj : jj + 0 ≤ 4014) (K : ∀ S', CS S' sv3 → XW p l e rm_L_searches s m args below meth c D w0 2 Q (wE cI cZ ad S' (eo ad (ad 0) (ad 7) rest)) kk jj 44 [(0, .ref (ad 32))] []) : XW p l e rm_L_searches s m args below meth c D w0 2 Q (wE cI cZ ad S0 (eo ad (ad 0) (ad 7) rest)) kk jj 8 [(0, .ref (ad 32))] [] := by
  refine x_aload_n C 0 dL_searches_8 rfl ?_
  refine x_iconst C (v := 1) dL_searches_9 (by decide) ?_
  refine x_iconst C (v := 1) dL_searches_10 (by decide) ?_
  refine x_iconst C (v := 2) dL_searches_11 (by decide) ?_
  obtain ⟨S1, f1, g1⟩ := w_class (i := 1) (a := 1) (b' := 2) h0 (by decide +kernel)
  have e1 : X5_setClass S0 1 1 2 = some (0, S1) := f1
  have h1 : CS S1 sv1 := g1
  refine x_ci (mc := 0) (ms := 0) (x_runSW C hX hN (As := [.ref (ad 32), .int 1, .int 1, .int 2]) (rest := []) (c_L_kind_ok hfl e1) (cw_L_searches_L_kind_ok C) rfl (Nat.le_of_ble_eq_true rfl) dL_searches_12 ⟨by show _ ≤ 487; omega, by show _ ≤ 4014; omega⟩) ?_
  refine x_if_ne C (t := 246) dL_searches_15 (by decide) (fun c9 => absurd c9 (by decide)) (fun _ => ?_)
  refine x_aload_n C 0 dL_searches_18 rfl ?_
  refine x_iconst C (v := 0) dL_searches_19 (by decide) ?_
  refine x_iconst C (v := 0) dL_searches_20 (by decide) ?_
  refine x_bipush C (v := 30) dL_searches_21 (by decide) ?_
  refine x_iconst C (v := 1) dL_searches_23 (by decide) ?_
  obtain ⟨S2, f2, g2⟩ := w_add0 (t := 1) (p := 0) (l := 30) (i := 1) (z := 2) (L9 := [0]) h1 (by decide +kernel)
  have e2 : X5_add S1 0 0 30 1 = some (0, 2, S2) := f2
  have h2 : CS S2 sv2 := g2
  refine x_ci0 (x_runV C (As := [.int 0, .int 0, .int 30, .int 1]) (rest := []) (c_X5_add_ok e2) (cw_L_searches_X5_add C) 32 rfl rfl rfl (Nat.le_of_ble_eq_true rfl) dL_searches_24 ⟨by show _ ≤ 487; omega, by show _ ≤ 4014; omega⟩) ?_
  refine x_iconst C (v := 2) dL_searches_27 (by decide) ?_
  refine x_icmp_ne C (t := 246) dL_searches_28 (by decide) (fun c9 => absurd c9 (by decide)) (fun _ => ?_)
  refine x_aload_n C 0 dL_searches_31 rfl ?_
  refine x_iconst C (v := 0) dL_searches_32 (by decide) ?_
  refine x_iconst C (v := 2) dL_searches_33 (by decide) ?_
  refine x_bipush C (v := 9) dL_searches_34 (by decide) ?_
  refine x_iconst C (v := 1) dL_searches_36 (by decide) ?_
  obtain ⟨S3, f3, g3⟩ := w_add0 (t := 2) (p := 2) (l := 9) (i := 1) (z := 3) (L9 := [0, 1]) h2 (by decide +kernel)
  have e3 : X5_add S2 0 2 9 1 = some (0, 3, S3) := f3
  have h3 : CS S3 sv3 := g3
  refine x_ci0 (x_runV C (As := [.int 0, .int 2, .int 9, .int 1]) (rest := []) (c_X5_add_ok e3) (cw_L_searches_X5_add C) 32 rfl rfl rfl (Nat.le_of_ble_eq_true rfl) dL_searches_37 ⟨by show _ ≤ 487; omega, by show _ ≤ 4014; omega⟩) ?_
  refine x_iconst C (v := 3) dL_searches_40 (by decide) ?_
  refine x_icmp_ne C (t := 246) dL_searches_41 (by decide) (fun c9 => absurd c9 (by decide)) (fun _ => ?_)
  exact x_widen (by omega) (by omega) (K _ h3)
set_option maxHeartbeats 4000000 in
set_option maxRecDepth 100000 in
theorem svs1 {p : Program} {l : Launch} {e : Env} {s : State} {m : MethodId} {args : Array Value} {below : List Frame} {meth : Method} {c : Code} {D : va_G} {cI cZ cJ : ClassId} {ad : Nat → Nat} {S0 : St} {rest w0 : va_W} {Q : State → Prop} {kk jj : Nat} (hfl : l.stackTraces = false) (C : XC p rm_L_searches s m args meth c cL_searches 2 (some .boolean) RL wsL_searches D (t3 cI cZ cJ)) (hX : XS (va_A w0 s.heap.size) s s.heap) (hN : NC s) (h0 : CS S0 sv3) (hk : kk + 2 ≤ 487) (hj : jj + 12 ≤ 4014) (K : ∀ S', CS S' sv6 → XW p l e rm_L_searches s m args below meth c D w0 2 Q (wE cI cZ ad S' (eo ad (ad 0) (ad 7) rest)) (kk + 2) (jj + 12) 125 [(0, .ref (ad 32))] []) : XW p l e rm_L_searches s m args below meth c D w0 2 Q (wE cI cZ ad S0 (eo ad (ad 0) (ad 7) rest)) kk jj 44 [(0, .ref (ad 32))] [] := by
  refine x_aload_n C 0 dL_searches_44 rfl ?_
  refine x_iconst C (v := 0) dL_searches_45 (by decide) ?_
  refine x_iconst C (v := 2) dL_searches_46 (by decide) ?_
  refine x_iconst C (v := 4) dL_searches_47 (by decide) ?_
  refine x_iconst C (v := 0) dL_searches_48 (by decide) ?_
  obtain ⟨S1, f1, g1⟩ := w_add0 (t := 3) (p := 2) (l := 4) (i := 0) (z := 4) (L9 := [0, 1, 2]) h0 (by decide +kernel)
  have e1 : X5_add S0 0 2 4 0 = some (0, 4, S1) := f1
  have h1 : CS S1 sv4 := g1
  refine x_ci0 (x_runV C (As := [.int 0, .int 2, .int 4, .int 0]) (rest := []) (c_X5_add_ok e1) (cw_L_searches_X5_add C) 32 rfl rfl rfl (Nat.le_of_ble_eq_true rfl) dL_searches_49 ⟨by show _ ≤ 487; omega, by show _ ≤ 4014; omega⟩) ?_
  refine x_iconst C (v := 4) dL_searches_52 (by decide) ?_
  refine x_icmp_ne C (t := 246) dL_searches_53 (by decide) (fun c9 => absurd c9 (by decide)) (fun _ => ?_)
  refine x_aload_n C 0 dL_searches_56 rfl ?_
  refine x_iconst C (v := 0) dL_searches_57 (by decide) ?_
  refine x_iconst C (v := 0) dL_searches_58 (by decide) ?_
  refine x_iconst C (v := 3) dL_searches_59 (by decide) ?_
  refine x_iconst C (v := 2) dL_searches_60 (by decide) ?_
  obtain ⟨S2, f2, g2⟩ := w_add0 (t := 4) (p := 0) (l := 3) (i := 2) (z := 5) (L9 := [0, 1, 2, 3]) h1 (by decide +kernel)
  have e2 : X5_add S1 0 0 3 2 = some (0, 5, S2) := f2
  have h2 : CS S2 sv5 := g2
  refine x_ci0 (x_runV C (As := [.int 0, .int 0, .int 3, .int 2]) (rest := []) (c_X5_add_ok e2) (cw_L_searches_X5_add C) 32 rfl rfl rfl (Nat.le_of_ble_eq_true rfl) dL_searches_61 ⟨by show _ ≤ 487; omega, by show _ ≤ 4014; omega⟩) ?_
  refine x_iconst C (v := 5) dL_searches_64 (by decide) ?_
  refine x_icmp_ne C (t := 246) dL_searches_65 (by decide) (fun c9 => absurd c9 (by decide)) (fun _ => ?_)
  refine x_aload_n C 0 dL_searches_68 rfl ?_
  refine x_iconst C (v := 1) dL_searches_69 (by decide) ?_
  refine x_iconst C (v := 1) dL_searches_70 (by decide) ?_
  refine x_iconst C (v := 2) dL_searches_71 (by decide) ?_
  have q1 : X5_setClass S2 1 1 2 = some (3, S2) := q_class_full (n := 4) (F := vF sv5) (IC.fr0 (n := 4) h2) (i := 1) (a := 1) (b := 2) (by decide) (by decide) (by decide) (by decide)
  refine x_ci (mc := 1) (ms := 6) (x_runSW C hX hN (As := [.ref (ad 32), .int 1, .int 1, .int 2]) (rest := []) (c_L_kind_th2 hfl q1) (cw_L_searches_L_kind_th C) rfl (Nat.le_of_ble_eq_true rfl) dL_searches_72 ⟨by show _ ≤ 487; omega, by show _ ≤ 4014; omega⟩) ?_
  refine x_bipush C (v := (-73)) dL_searches_75 (by decide) ?_
  refine x_icmp_ne C (t := 246) dL_searches_77 (by decide) (fun c9 => absurd c9 (by decide)) (fun _ => ?_)
  refine x_aload_n C 0 dL_searches_80 rfl ?_
  refine x_iconst C (v := 0) dL_searches_81 (by decide) ?_
  refine x_iconst C (v := 2) dL_searches_82 (by decide) ?_
  have q2 : X5_isWhole S2 0 2 = some (0, 0) := w_whole0 (p := 2) (b := false) h2 (by decide +kernel)
  refine x_ci0 (x_runV C (As := [.int 0, .int 2]) (rest := []) (c_X5_isWhole_ok q2) (cw_L_searches_X5_isWhole C) 32 rfl rfl rfl (Nat.le_of_ble_eq_true rfl) dL_searches_83 ⟨by show _ ≤ 487; omega, by show _ ≤ 4014; omega⟩) ?_
  refine x_if_ne C (t := 246) dL_searches_86 (by decide) (fun c9 => absurd c9 (by decide)) (fun _ => ?_)
  refine x_aload_n C 0 dL_searches_89 rfl ?_
  refine x_iconst C (v := 0) dL_searches_90 (by decide) ?_
  refine x_iconst C (v := 4) dL_searches_91 (by decide) ?_
  have q3 : X5_isWhole S2 0 4 = some (0, 1) := w_whole0 (p := 4) (b := true) h2 (by decide +kernel)
  refine x_ci0 (x_runV C (As := [.int 0, .int 4]) (rest := []) (c_X5_isWhole_ok q3) (cw_L_searches_X5_isWhole C) 32 rfl rfl rfl (Nat.le_of_ble_eq_true rfl) dL_searches_92 ⟨by show _ ≤ 487; omega, by show _ ≤ 4014; omega⟩) ?_
  refine x_if_eq C (t := 246) dL_searches_95 (by decide) (fun c9 => absurd c9 (by decide)) (fun _ => ?_)
  refine x_aload_n C 0 dL_searches_98 rfl ?_
  refine x_iconst C (v := 1) dL_searches_99 (by decide) ?_
  refine x_iconst C (v := 0) dL_searches_100 (by decide) ?_
  refine x_iconst C (v := 2) dL_searches_101 (by decide) ?_
  refine x_iconst C (v := 2) dL_searches_102 (by decide) ?_
  refine x_iconst C (v := 5) dL_searches_103 (by decide) ?_
  have q4 : X5_set S2 0 2 2 5 = some (3, 0, S2) := w_set_no (p := 2) (w := 2) (o := (some 5)) h2 (by decide +kernel)
  refine x_ci (mc := 1) (ms := 6) (x_runSW C hX hN (As := [.ref (ad 32), .int 1, .int 0, .int 2, .int 2, .int 5]) (rest := []) (c_L_act_set_th2 hfl q4) (cw_L_searches_L_act_th C) rfl (Nat.le_of_ble_eq_true rfl) dL_searches_104 ⟨by show _ ≤ 487; omega, by show _ ≤ 4014; omega⟩) ?_
  refine x_bipush C (v := (-73)) dL_searches_107 (by decide) ?_
  refine x_icmp_ne C (t := 246) dL_searches_109 (by decide) (fun c9 => absurd c9 (by decide)) (fun _ => ?_)
  refine x_aload_n C 0 dL_searches_112 rfl ?_
  refine x_iconst C (v := 0) dL_searches_113 (by decide) ?_
  refine x_iconst C (v := 2) dL_searches_114 (by decide) ?_
  refine x_iconst C (v := 0) dL_searches_115 (by decide) ?_
  refine x_bipush C (v := 7) dL_searches_116 (by decide) ?_
  obtain ⟨S3, f3, g3⟩ := w_set0 (t := 5) (p := 2) (w := 0) (o := (some 7)) (v := (-1)) (L9 := [0, 1, 2, 3, 4]) h2 (by decide +kernel)
  have e3 : X5_set S2 0 2 0 7 = some (0, (-1), S3) := f3
  have h3 : CS S3 sv6 := g3
  refine x_ci0 (x_runV C (As := [.int 0, .int 2, .int 0, .int 7]) (rest := []) (c_X5_set_ok e3) (cw_L_searches_X5_set C) 32 rfl rfl rfl (Nat.le_of_ble_eq_true rfl) dL_searches_118 ⟨by show _ ≤ 487; omega, by show _ ≤ 4014; omega⟩) ?_
  refine x_iconst C (v := (-1)) dL_searches_121 (by decide) ?_
  refine x_icmp_ne C (t := 246) dL_searches_122 (by decide) (fun c9 => absurd c9 (by decide)) (fun _ => ?_)
  exact x_widen (by omega) (by omega) (K _ h3)
set_option maxHeartbeats 4000000 in
set_option maxRecDepth 100000 in
theorem svs2 {p : Program} {l : Launch} {e : Env} {s : State} {m : MethodId} {args : Array Value} {below : List Frame} {meth : Method} {c : Code} {D : va_G} {cI cZ cJ : ClassId} {ad : Nat → Nat} {S0 : St} {rest w0 : va_W} {Q : State → Prop} {kk jj : Nat} (hfl : l.stackTraces = false) (C : XC p rm_L_searches s m args meth c cL_searches 2 (some .boolean) RL wsL_searches D (t3 cI cZ cJ)) (hX : XS (va_A w0 s.heap.size) s s.heap) (hN : NC s) (h0 : CS S0 sv6) (hk : kk + 0 ≤ 487) (hj : jj + 0 ≤ 4014) (K : ∀ S', CS S' sv9 → XW p l e rm_L_searches s m args below meth c D w0 2 Q (wE cI cZ ad S' (eo ad (ad 0) (ad 7) rest)) kk jj 168 [(0, .ref (ad 32))] []) : XW p l e rm_L_searches s m args below meth c D w0 2 Q (wE cI cZ ad S0 (eo ad (ad 0) (ad 7) rest)) kk jj 125 [(0, .ref (ad 32))] [] := by
  refine x_aload_n C 0 dL_searches_125 rfl ?_
  refine x_iconst C (v := 0) dL_searches_126 (by decide) ?_
  refine x_iconst C (v := 2) dL_searches_127 (by decide) ?_
  have q1 : X5_isWhole S0 0 2 = some (0, 1) := w_whole0 (p := 2) (b := true) h0 (by decide +kernel)
  refine x_ci0 (x_runV C (As := [.int 0, .int 2]) (rest := []) (c_X5_isWhole_ok q1) (cw_L_searches_X5_isWhole C) 32 rfl rfl rfl (Nat.le_of_ble_eq_true rfl) dL_searches_128 ⟨by show _ ≤ 487; omega, by show _ ≤ 4014; omega⟩) ?_
  refine x_if_eq C (t := 246) dL_searches_131 (by decide) (fun c9 => absurd c9 (by decide)) (fun _ => ?_)
  refine x_aload_n C 0 dL_searches_134 rfl ?_
  refine x_iconst C (v := 0) dL_searches_135 (by decide) ?_
  refine x_iconst C (v := 3) dL_searches_136 (by decide) ?_
  refine x_iconst C (v := 0) dL_searches_137 (by decide) ?_
  refine x_iconst C (v := 2) dL_searches_138 (by decide) ?_
  obtain ⟨S1, f1, g1⟩ := w_set0 (t := 6) (p := 3) (w := 0) (o := (some 2)) (v := (-1)) (L9 := [0, 1, 2, 3, 4, 5]) h0 (by decide +kernel)
  have e1 : X5_set S0 0 3 0 2 = some (0, (-1), S1) := f1
  have h1 : CS S1 sv7 := g1
  refine x_ci0 (x_runV C (As := [.int 0, .int 3, .int 0, .int 2]) (rest := []) (c_X5_set_ok e1) (cw_L_searches_X5_set C) 32 rfl rfl rfl (Nat.le_of_ble_eq_true rfl) dL_searches_139 ⟨by show _ ≤ 487; omega, by show _ ≤ 4014; omega⟩) ?_
  refine x_iconst C (v := (-1)) dL_searches_142 (by decide) ?_
  refine x_icmp_ne C (t := 246) dL_searches_143 (by decide) (fun c9 => absurd c9 (by decide)) (fun _ => ?_)
  refine x_aload_n C 0 dL_searches_146 rfl ?_
  refine x_iconst C (v := 0) dL_searches_147 (by decide) ?_
  refine x_iconst C (v := 4) dL_searches_148 (by decide) ?_
  refine x_iconst C (v := 3) dL_searches_149 (by decide) ?_
  refine x_iconst C (v := 1) dL_searches_150 (by decide) ?_
  obtain ⟨S2, f2, g2⟩ := w_set0 (t := 7) (p := 4) (w := 3) (o := (some 1)) (v := (-1)) (L9 := [0, 1, 2, 3, 4, 5, 6]) h1 (by decide +kernel)
  have e2 : X5_set S1 0 4 3 1 = some (0, (-1), S2) := f2
  have h2 : CS S2 sv8 := g2
  refine x_ci0 (x_runV C (As := [.int 0, .int 4, .int 3, .int 1]) (rest := []) (c_X5_set_ok e2) (cw_L_searches_X5_set C) 32 rfl rfl rfl (Nat.le_of_ble_eq_true rfl) dL_searches_151 ⟨by show _ ≤ 487; omega, by show _ ≤ 4014; omega⟩) ?_
  refine x_iconst C (v := (-1)) dL_searches_154 (by decide) ?_
  refine x_icmp_ne C (t := 246) dL_searches_155 (by decide) (fun c9 => absurd c9 (by decide)) (fun _ => ?_)
  refine x_aload_n C 0 dL_searches_158 rfl ?_
  refine x_iconst C (v := 2) dL_searches_159 (by decide) ?_
  refine x_iconst C (v := 0) dL_searches_160 (by decide) ?_
  refine x_iconst C (v := 5) dL_searches_161 (by decide) ?_
  obtain ⟨S3, f3, g3⟩ := w_test (k := 2) (a := 0) (b' := 5) (z := 0) h2 (by decide +kernel)
  have e3 : X5_test S2 2 0 5 = some (0, 0, S3) := f3
  have h3 : CS S3 sv9 := g3
  refine x_ci0 (x_runV C (As := [.int 2, .int 0, .int 5]) (rest := []) (c_X5_test_ok e3) (cw_L_searches_X5_test C) 32 rfl rfl rfl (Nat.le_of_ble_eq_true rfl) dL_searches_162 ⟨by show _ ≤ 487; omega, by show _ ≤ 4014; omega⟩) ?_
  refine x_if_ne C (t := 246) dL_searches_165 (by decide) (fun c9 => absurd c9 (by decide)) (fun _ => ?_)
  exact x_widen (by omega) (by omega) (K _ h3)
set_option maxHeartbeats 4000000 in
set_option maxRecDepth 100000 in
theorem svs3 {p : Program} {l : Launch} {e : Env} {s : State} {m : MethodId} {args : Array Value} {below : List Frame} {meth : Method} {c : Code} {D : va_G} {cI cZ cJ : ClassId} {ad : Nat → Nat} {S0 : St} {rest w0 : va_W} {Q : State → Prop} {kk jj : Nat} (hfl : l.stackTraces = false) (C : XC p rm_L_searches s m args meth c cL_searches 2 (some .boolean) RL wsL_searches D (t3 cI cZ cJ)) (hX : XS (va_A w0 s.heap.size) s s.heap) (hN : NC s) (h0 : CS S0 sv9) (hk : kk + 0 ≤ 487) (hj : jj + 0 ≤ 4014) (K : ∀ S', CS S' sv12 → XW p l e rm_L_searches s m args below meth c D w0 2 Q (wE cI cZ ad S' (eo ad (ad 0) (ad 7) rest)) kk jj 201 [(0, .ref (ad 32))] []) : XW p l e rm_L_searches s m args below meth c D w0 2 Q (wE cI cZ ad S0 (eo ad (ad 0) (ad 7) rest)) kk jj 168 [(0, .ref (ad 32))] [] := by
  refine x_aload_n C 0 dL_searches_168 rfl ?_
  refine x_iconst C (v := 0) dL_searches_169 (by decide) ?_
  refine x_iconst C (v := 3) dL_searches_170 (by decide) ?_
  refine x_iconst C (v := 0) dL_searches_171 (by decide) ?_
  obtain ⟨S1, f1, g1⟩ := w_test (k := 0) (a := 3) (b' := 0) (z := 1) h0 (by decide +kernel)
  have e1 : X5_test S0 0 3 0 = some (0, 1, S1) := f1
  have h1 : CS S1 sv10 := g1
  refine x_ci0 (x_runV C (As := [.int 0, .int 3, .int 0]) (rest := []) (c_X5_test_ok e1) (cw_L_searches_X5_test C) 32 rfl rfl rfl (Nat.le_of_ble_eq_true rfl) dL_searches_172 ⟨by show _ ≤ 487; omega, by show _ ≤ 4014; omega⟩) ?_
  refine x_iconst C (v := 1) dL_searches_175 (by decide) ?_
  refine x_icmp_ne C (t := 246) dL_searches_176 (by decide) (fun c9 => absurd c9 (by decide)) (fun _ => ?_)
  refine x_aload_n C 0 dL_searches_179 rfl ?_
  refine x_iconst C (v := 2) dL_searches_180 (by decide) ?_
  refine x_iconst C (v := 1) dL_searches_181 (by decide) ?_
  refine x_iconst C (v := 1) dL_searches_182 (by decide) ?_
  obtain ⟨S2, f2, g2⟩ := w_join (k := 2) (a := 1) (b' := 1) (z := 2) h1 (by decide +kernel)
  have e2 : X5_join S1 2 1 1 = some (0, 2, S2) := f2
  have h2 : CS S2 sv11 := g2
  refine x_ci0 (x_runV C (As := [.int 2, .int 1, .int 1]) (rest := []) (c_X5_join_ok e2) (cw_L_searches_X5_join C) 32 rfl rfl rfl (Nat.le_of_ble_eq_true rfl) dL_searches_183 ⟨by show _ ≤ 487; omega, by show _ ≤ 4014; omega⟩) ?_
  refine x_iconst C (v := 2) dL_searches_186 (by decide) ?_
  refine x_icmp_ne C (t := 246) dL_searches_187 (by decide) (fun c9 => absurd c9 (by decide)) (fun _ => ?_)
  refine x_aload_n C 0 dL_searches_190 rfl ?_
  refine x_iconst C (v := 1) dL_searches_191 (by decide) ?_
  refine x_iconst C (v := 0) dL_searches_192 (by decide) ?_
  refine x_iconst C (v := 1) dL_searches_193 (by decide) ?_
  obtain ⟨S3, f3, g3⟩ := w_join (k := 1) (a := 0) (b' := 1) (z := 3) h2 (by decide +kernel)
  have e3 : X5_join S2 1 0 1 = some (0, 3, S3) := f3
  have h3 : CS S3 sv12 := g3
  refine x_ci0 (x_runV C (As := [.int 1, .int 0, .int 1]) (rest := []) (c_X5_join_ok e3) (cw_L_searches_X5_join C) 32 rfl rfl rfl (Nat.le_of_ble_eq_true rfl) dL_searches_194 ⟨by show _ ≤ 487; omega, by show _ ≤ 4014; omega⟩) ?_
  refine x_iconst C (v := 3) dL_searches_197 (by decide) ?_
  refine x_icmp_ne C (t := 246) dL_searches_198 (by decide) (fun c9 => absurd c9 (by decide)) (fun _ => ?_)
  exact x_widen (by omega) (by omega) (K _ h3)
set_option maxHeartbeats 4000000 in
set_option maxRecDepth 100000 in
theorem svs4 {p : Program} {l : Launch} {e : Env} {s : State} {m : MethodId} {args : Array Value} {below : List Frame} {meth : Method} {c : Code} {D : va_G} {cI cZ cJ : ClassId} {ad : Nat → Nat} {S0 : St} {rest w0 : va_W} {Q : State → Prop} {kk jj : Nat} (hfl : l.stackTraces = false) (C : XC p rm_L_searches s m args meth c cL_searches 2 (some .boolean) RL wsL_searches D (t3 cI cZ cJ)) (hX : XS (va_A w0 s.heap.size) s s.heap) (hN : NC s) (h0 : CS S0 sv12) (hk : kk + 0 ≤ 487) (hj : jj + 0 ≤ 4014) (K : ∀ S', CS S' sv15 → XW p l e rm_L_searches s m args below meth c D w0 2 Q (wE cI cZ ad S' (eo ad (ad 0) (ad 7) rest)) kk jj 235 [(0, .ref (ad 32))] []) : XW p l e rm_L_searches s m args below meth c D w0 2 Q (wE cI cZ ad S0 (eo ad (ad 0) (ad 7) rest)) kk jj 201 [(0, .ref (ad 32))] [] := by
  refine x_aload_n C 0 dL_searches_201 rfl ?_
  refine x_iconst C (v := 0) dL_searches_202 (by decide) ?_
  refine x_iconst C (v := 0) dL_searches_203 (by decide) ?_
  refine x_iconst C (v := 1) dL_searches_204 (by decide) ?_
  obtain ⟨S1, f1, g1⟩ := w_join (k := 0) (a := 0) (b' := 1) (z := 4) h0 (by decide +kernel)
  have e1 : X5_join S0 0 0 1 = some (0, 4, S1) := f1
  have h1 : CS S1 sv13 := g1
  refine x_ci0 (x_runV C (As := [.int 0, .int 0, .int 1]) (rest := []) (c_X5_join_ok e1) (cw_L_searches_X5_join C) 32 rfl rfl rfl (Nat.le_of_ble_eq_true rfl) dL_searches_205 ⟨by show _ ≤ 487; omega, by show _ ≤ 4014; omega⟩) ?_
  refine x_iconst C (v := 4) dL_searches_208 (by decide) ?_
  refine x_icmp_ne C (t := 246) dL_searches_209 (by decide) (fun c9 => absurd c9 (by decide)) (fun _ => ?_)
  refine x_aload_n C 0 dL_searches_212 rfl ?_
  refine x_iconst C (v := 1) dL_searches_213 (by decide) ?_
  refine x_iconst C (v := 1) dL_searches_214 (by decide) ?_
  refine x_iconst C (v := 2) dL_searches_215 (by decide) ?_
  obtain ⟨S2, f2, g2⟩ := w_join (k := 1) (a := 1) (b' := 2) (z := 5) h1 (by decide +kernel)
  have e2 : X5_join S1 1 1 2 = some (0, 5, S2) := f2
  have h2 : CS S2 sv14 := g2
  refine x_ci0 (x_runV C (As := [.int 1, .int 1, .int 2]) (rest := []) (c_X5_join_ok e2) (cw_L_searches_X5_join C) 32 rfl rfl rfl (Nat.le_of_ble_eq_true rfl) dL_searches_216 ⟨by show _ ≤ 487; omega, by show _ ≤ 4014; omega⟩) ?_
  refine x_iconst C (v := 5) dL_searches_219 (by decide) ?_
  refine x_icmp_ne C (t := 246) dL_searches_220 (by decide) (fun c9 => absurd c9 (by decide)) (fun _ => ?_)
  refine x_aload_n C 0 dL_searches_223 rfl ?_
  refine x_iconst C (v := 1) dL_searches_224 (by decide) ?_
  refine x_iconst C (v := 0) dL_searches_225 (by decide) ?_
  refine x_iconst C (v := 2) dL_searches_226 (by decide) ?_
  obtain ⟨S3, f3, g3⟩ := w_test (k := 1) (a := 0) (b' := 2) (z := 6) h2 (by decide +kernel)
  have e3 : X5_test S2 1 0 2 = some (0, 6, S3) := f3
  have h3 : CS S3 sv15 := g3
  refine x_ci0 (x_runV C (As := [.int 1, .int 0, .int 2]) (rest := []) (c_X5_test_ok e3) (cw_L_searches_X5_test C) 32 rfl rfl rfl (Nat.le_of_ble_eq_true rfl) dL_searches_227 ⟨by show _ ≤ 487; omega, by show _ ≤ 4014; omega⟩) ?_
  refine x_bipush C (v := 6) dL_searches_230 (by decide) ?_
  refine x_icmp_ne C (t := 246) dL_searches_232 (by decide) (fun c9 => absurd c9 (by decide)) (fun _ => ?_)
  exact x_widen (by omega) (by omega) (K _ h3)
set_option maxHeartbeats 4000000 in
set_option maxRecDepth 100000 in
theorem svs5 {p : Program} {l : Launch} {e : Env} {s : State} {m : MethodId} {args : Array Value} {below : List Frame} {meth : Method} {c : Code} {D : va_G} {cI cZ cJ : ClassId} {ad : Nat → Nat} {S0 : St} {rest w0 : va_W} {Q : State → Prop} {kk jj : Nat} (hfl : l.stackTraces = false) (C : XC p rm_L_searches s m args meth c cL_searches 2 (some .boolean) RL wsL_searches D (t3 cI cZ cJ)) (hX : XS (va_A w0 s.heap.size) s s.heap) (hN : NC s) (h0 : CS S0 sv15) (hk : kk + 225 ≤ 487) (hj : jj + 1350 ≤ 4014) (K : ∀ S', CS S' sv15 → XW p l e rm_L_searches s m args below meth c D w0 2 Q (wE cI cZ ad S' (eo ad (ad 0) (ad 7) rest)) (kk + 225) (jj + 1350) 279 [(0, .ref (ad 32))] []) : XW p l e rm_L_searches s m args below meth c D w0 2 Q (wE cI cZ ad S0 (eo ad (ad 0) (ad 7) rest)) kk jj 235 [(0, .ref (ad 32))] [] := by
  refine x_aload_n C 0 dL_searches_235 rfl ?_
  refine x_bipush C (v := 7) dL_searches_236 (by decide) ?_
  refine x_bipush C (v := 6) dL_searches_238 (by decide) ?_
  have r1 : RFS S0 7 7 6 := w_rfs (p := 6) (z := 7) (k := 7) h0 (by decide +kernel)
  refine x_ci (mc := 225) (ms := 1350) (x_runSY C hX hN (As := [.ref (ad 32), .int (nI 7), .int (nI 6)]) (rest := []) (c_L_refuses hfl r1) (cw_L_searches_L_refuses C) rfl (Nat.le_of_ble_eq_true rfl) dL_searches_240 ⟨by show _ ≤ 487; omega, by show _ ≤ 4014; omega⟩) ?_
  refine x_if_ne C (t := 248) dL_searches_243 (by decide) (fun _ => ?_) (fun c9 => absurd c9 (by decide))
  refine x_aload_n C 0 dL_searches_248 rfl ?_
  refine x_iconst C (v := 0) dL_searches_249 (by decide) ?_
  refine x_iconst C (v := 0) dL_searches_250 (by decide) ?_
  refine x_iconst C (v := 2) dL_searches_251 (by decide) ?_
  obtain ⟨S1, f1, g1⟩ := w_holds (k := 0) (p := 2) (v := 1) h0 (by decide +kernel)
  have e1 : X5_holds S0 0 0 2 = some (0, 1, S1) := f1
  have h1 : CS S1 sv15 := g1
  refine x_ci0 (x_runV C (As := [.int 0, .int 0, .int 2]) (rest := []) (c_X5_holds_ok e1) (cw_L_searches_X5_holds C) 32 rfl rfl rfl (Nat.le_of_ble_eq_true rfl) dL_searches_252 ⟨by show _ ≤ 487; omega, by show _ ≤ 4014; omega⟩) ?_
  refine x_iconst C (v := 1) dL_searches_255 (by decide) ?_
  refine x_icmp_ne C (t := 420) dL_searches_256 (by decide) (fun c9 => absurd c9 (by decide)) (fun _ => ?_)
  refine x_aload_n C 0 dL_searches_259 rfl ?_
  refine x_iconst C (v := 0) dL_searches_260 (by decide) ?_
  refine x_iconst C (v := 0) dL_searches_261 (by decide) ?_
  refine x_iconst C (v := 3) dL_searches_262 (by decide) ?_
  obtain ⟨S2, f2, g2⟩ := w_holds (k := 0) (p := 3) (v := 0) h1 (by decide +kernel)
  have e2 : X5_holds S1 0 0 3 = some (0, 0, S2) := f2
  have h2 : CS S2 sv15 := g2
  refine x_ci0 (x_runV C (As := [.int 0, .int 0, .int 3]) (rest := []) (c_X5_holds_ok e2) (cw_L_searches_X5_holds C) 32 rfl rfl rfl (Nat.le_of_ble_eq_true rfl) dL_searches_263 ⟨by show _ ≤ 487; omega, by show _ ≤ 4014; omega⟩) ?_
  refine x_if_ne C (t := 420) dL_searches_266 (by decide) (fun c9 => absurd c9 (by decide)) (fun _ => ?_)
  refine x_aload_n C 0 dL_searches_269 rfl ?_
  refine x_iconst C (v := 0) dL_searches_270 (by decide) ?_
  refine x_iconst C (v := 0) dL_searches_271 (by decide) ?_
  refine x_iconst C (v := 4) dL_searches_272 (by decide) ?_
  obtain ⟨S3, f3, g3⟩ := w_holds (k := 0) (p := 4) (v := 0) h2 (by decide +kernel)
  have e3 : X5_holds S2 0 0 4 = some (0, 0, S3) := f3
  have h3 : CS S3 sv15 := g3
  refine x_ci0 (x_runV C (As := [.int 0, .int 0, .int 4]) (rest := []) (c_X5_holds_ok e3) (cw_L_searches_X5_holds C) 32 rfl rfl rfl (Nat.le_of_ble_eq_true rfl) dL_searches_273 ⟨by show _ ≤ 487; omega, by show _ ≤ 4014; omega⟩) ?_
  refine x_if_ne C (t := 420) dL_searches_276 (by decide) (fun c9 => absurd c9 (by decide)) (fun _ => ?_)
  exact x_widen (by omega) (by omega) (K _ h3)
