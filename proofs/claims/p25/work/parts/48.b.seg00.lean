set_option maxHeartbeats 4000000 in
set_option maxRecDepth 100000 in
theorem mvs0 {p : Program} {l : Launch} {e : Env} {s : State} {m : MethodId} {args : Array Value} {below : List Frame} {meth : Method} {c : Code} {D : va_G} {cI cZ cJ : ClassId} {ad : Nat → Nat} {S0 : St} {rest w0 : va_W} {Q : State → Prop} {kk jj : Nat} (hfl : l.stackTraces = false) (C : XC p rm_L_masters s m args meth c cL_masters 1 (some .boolean) RL wsL_masters D (t3 cI cZ cJ)) (hX : XS (va_A w0 s.heap.size) s s.heap) (hN : NC s) (h0 : CS S0 vv0) (hk : kk + 225 ≤ 939) (hj : jj + 1350 ≤ 6726) (K : ∀ S', CS S' mv2 → XW p l e rm_L_masters s m args below meth c D w0 1 Q (wE cI cZ ad S' (eo ad (ad 0) (ad 7) rest)) (kk + 225) (jj + 1350) 134 [(0, .ref (ad 32))] []) : XW p l e rm_L_masters s m args below meth c D w0 1 Q (wE cI cZ ad S0 (eo ad (ad 0) (ad 7) rest)) kk jj 8 [(0, .ref (ad 32))] [] := by
  refine x_aload_n C 0 dL_masters_8 rfl ?_
  have q1 : X5_changes S0 = some 0 := w_changes (z := 0) h0 (by decide +kernel)
  refine x_ci0 (x_runV C (As := []) (rest := []) (c_X5_changes q1) (cw_L_masters_X5_changes C) 32 rfl rfl rfl (Nat.le_of_ble_eq_true rfl) dL_masters_9 ⟨by show _ ≤ 939; omega, by show _ ≤ 6726; omega⟩) ?_
  refine x_if_ne C (t := 282) dL_masters_12 (by decide) (fun c9 => absurd c9 (by decide)) (fun _ => ?_)
  refine x_aload_n C 0 dL_masters_15 rfl ?_
  refine x_iconst C (v := 1) dL_masters_16 (by decide) ?_
  have q2 : X5_entries S0 1 = some (0, 2) := w_entries1 (z := 2) h0 (by decide +kernel)
  refine x_ci0 (x_runV C (As := [.int 1]) (rest := []) (c_X5_entries_ok q2) (cw_L_masters_X5_entries C) 32 rfl rfl rfl (Nat.le_of_ble_eq_true rfl) dL_masters_17 ⟨by show _ ≤ 939; omega, by show _ ≤ 6726; omega⟩) ?_
  refine x_iconst C (v := 2) dL_masters_20 (by decide) ?_
  refine x_icmp_ne C (t := 282) dL_masters_21 (by decide) (fun c9 => absurd c9 (by decide)) (fun _ => ?_)
  refine x_aload_n C 0 dL_masters_24 rfl ?_
  have q3 : X5_areAlike S0 = some 1 := w_alike_t h0 (by decide +kernel)
  refine x_ci0 (x_runV C (As := []) (rest := []) (c_X5_areAlike q3) (cw_L_masters_X5_areAlike C) 32 rfl rfl rfl (Nat.le_of_ble_eq_true rfl) dL_masters_25 ⟨by show _ ≤ 939; omega, by show _ ≤ 6726; omega⟩) ?_
  refine x_if_eq C (t := 282) dL_masters_28 (by decide) (fun c9 => absurd c9 (by decide)) (fun _ => ?_)
  refine x_aload_n C 0 dL_masters_31 rfl ?_
  refine x_iconst C (v := 0) dL_masters_32 (by decide) ?_
  refine x_iconst C (v := 0) dL_masters_33 (by decide) ?_
  refine x_iconst C (v := (-1)) dL_masters_34 (by decide) ?_
  refine x_iconst C (v := (-1)) dL_masters_35 (by decide) ?_
  obtain ⟨u4, v4, w4⟩ := w_at0 (p := 0) (v := (-1)) (o := none) h0 (by decide +kernel)
  have x4 : X5_isThere S0 0 0 = some (0, 1) := u4
  have y4 : X5_parentOf S0 0 0 = some (0, (-1)) := v4
  have z4 : X5_labelOf S0 0 0 = some (0, (-1)) := w4
  refine x_ci0 (x_runS C (As := [.ref (ad 32), .int 0, .int 0, .int (-1), .int (-1)]) (rest := []) (c_L_at x4 y4 z4) (cw_L_masters_L_at C) rfl (Nat.le_of_ble_eq_true rfl) dL_masters_36 ⟨by show _ ≤ 939; omega, by show _ ≤ 6726; omega⟩) ?_
  refine x_if_eq C (t := 282) dL_masters_39 (by decide) (fun c9 => absurd c9 (by decide)) (fun _ => ?_)
  refine x_aload_n C 0 dL_masters_42 rfl ?_
  refine x_iconst C (v := 1) dL_masters_43 (by decide) ?_
  refine x_iconst C (v := 1) dL_masters_44 (by decide) ?_
  refine x_iconst C (v := 0) dL_masters_45 (by decide) ?_
  refine x_bipush C (v := 99) dL_masters_46 (by decide) ?_
  obtain ⟨u5, v5, w5⟩ := w_at1 (p := 1) (v := 0) (o := (some 99)) h0 (by decide +kernel)
  have x5 : X5_isThere S0 1 1 = some (0, 1) := u5
  have y5 : X5_parentOf S0 1 1 = some (0, 0) := v5
  have z5 : X5_labelOf S0 1 1 = some (0, 99) := w5
  refine x_ci0 (x_runS C (As := [.ref (ad 32), .int 1, .int 1, .int 0, .int 99]) (rest := []) (c_L_at x5 y5 z5) (cw_L_masters_L_at C) rfl (Nat.le_of_ble_eq_true rfl) dL_masters_48 ⟨by show _ ≤ 939; omega, by show _ ≤ 6726; omega⟩) ?_
  refine x_if_eq C (t := 282) dL_masters_51 (by decide) (fun c9 => absurd c9 (by decide)) (fun _ => ?_)
  refine x_aload_n C 0 dL_masters_54 rfl ?_
  refine x_iconst C (v := 0) dL_masters_55 (by decide) ?_
  refine x_iconst C (v := 2) dL_masters_56 (by decide) ?_
  have q6 : X5_isThere S0 0 2 = some (0, 0) := w_there0 (p := 2) (b := false) h0 (by decide +kernel)
  refine x_ci0 (x_runV C (As := [.int 0, .int 2]) (rest := []) (c_X5_isThere_ok q6) (cw_L_masters_X5_isThere C) 32 rfl rfl rfl (Nat.le_of_ble_eq_true rfl) dL_masters_57 ⟨by show _ ≤ 939; omega, by show _ ≤ 6726; omega⟩) ?_
  refine x_if_ne C (t := 282) dL_masters_60 (by decide) (fun c9 => absurd c9 (by decide)) (fun _ => ?_)
  refine x_aload_n C 0 dL_masters_63 rfl ?_
  refine x_iconst C (v := 0) dL_masters_64 (by decide) ?_
  refine x_iconst C (v := 0) dL_masters_65 (by decide) ?_
  refine x_bipush C (v := 49) dL_masters_66 (by decide) ?_
  have q7 : X5_find S0 0 0 49 = some (0, 1) := w_find0 (p := 0) (l := 49) (k := 1) h0 (by decide +kernel)
  refine x_ci0 (x_runV C (As := [.int 0, .int 0, .int 49]) (rest := []) (c_X5_find_ok q7) (cw_L_masters_X5_find C) 32 rfl rfl rfl (Nat.le_of_ble_eq_true rfl) dL_masters_68 ⟨by show _ ≤ 939; omega, by show _ ≤ 6726; omega⟩) ?_
  refine x_iconst C (v := 1) dL_masters_71 (by decide) ?_
  refine x_icmp_ne C (t := 282) dL_masters_72 (by decide) (fun c9 => absurd c9 (by decide)) (fun _ => ?_)
  refine x_aload_n C 0 dL_masters_75 rfl ?_
  refine x_iconst C (v := 0) dL_masters_76 (by decide) ?_
  refine x_iconst C (v := 2) dL_masters_77 (by decide) ?_
  have r8 : RFS S0 0 0 2 := w_rfs (p := 2) (z := 0) (k := 0) h0 (by decide +kernel)
  refine x_ci (mc := 225) (ms := 1350) (x_runSY C hX hN (As := [.ref (ad 32), .int (nI 0), .int (nI 2)]) (rest := []) (c_L_refuses hfl r8) (cw_L_masters_L_refuses C) rfl (Nat.le_of_ble_eq_true rfl) dL_masters_78 ⟨by show _ ≤ 939; omega, by show _ ≤ 6726; omega⟩) ?_
  refine x_if_eq C (t := 282) dL_masters_81 (by decide) (fun c9 => absurd c9 (by decide)) (fun _ => ?_)
  refine x_aload_n C 0 dL_masters_84 rfl ?_
  refine x_iconst C (v := 0) dL_masters_85 (by decide) ?_
  refine x_iconst C (v := 0) dL_masters_86 (by decide) ?_
  refine x_iconst C (v := 5) dL_masters_87 (by decide) ?_
  refine x_iconst C (v := 0) dL_masters_88 (by decide) ?_
  obtain ⟨S1, f1, g1⟩ := w_add0 (t := 1) (p := 0) (l := 5) (i := 0) (z := 2) (L9 := [0]) h0 (by decide +kernel)
  have e1 : X5_add S0 0 0 5 0 = some (0, 2, S1) := f1
  have h1 : CS S1 mv1 := g1
  refine x_ci0 (x_runV C (As := [.int 0, .int 0, .int 5, .int 0]) (rest := []) (c_X5_add_ok e1) (cw_L_masters_X5_add C) 32 rfl rfl rfl (Nat.le_of_ble_eq_true rfl) dL_masters_89 ⟨by show _ ≤ 939; omega, by show _ ≤ 6726; omega⟩) ?_
  refine x_iconst C (v := 2) dL_masters_92 (by decide) ?_
  refine x_icmp_ne C (t := 282) dL_masters_93 (by decide) (fun c9 => absurd c9 (by decide)) (fun _ => ?_)
  refine x_aload_n C 0 dL_masters_96 rfl ?_
  refine x_iconst C (v := 0) dL_masters_97 (by decide) ?_
  refine x_iconst C (v := 2) dL_masters_98 (by decide) ?_
  refine x_bipush C (v := 7) dL_masters_99 (by decide) ?_
  refine x_iconst C (v := 0) dL_masters_101 (by decide) ?_
  obtain ⟨S2, f2, g2⟩ := w_add0 (t := 2) (p := 2) (l := 7) (i := 0) (z := 3) (L9 := [0, 1]) h1 (by decide +kernel)
  have e2 : X5_add S1 0 2 7 0 = some (0, 3, S2) := f2
  have h2 : CS S2 mv2 := g2
  refine x_ci0 (x_runV C (As := [.int 0, .int 2, .int 7, .int 0]) (rest := []) (c_X5_add_ok e2) (cw_L_masters_X5_add C) 32 rfl rfl rfl (Nat.le_of_ble_eq_true rfl) dL_masters_102 ⟨by show _ ≤ 939; omega, by show _ ≤ 6726; omega⟩) ?_
  refine x_iconst C (v := 3) dL_masters_105 (by decide) ?_
  refine x_icmp_ne C (t := 282) dL_masters_106 (by decide) (fun c9 => absurd c9 (by decide)) (fun _ => ?_)
  refine x_aload_n C 0 dL_masters_109 rfl ?_
  refine x_iconst C (v := 0) dL_masters_110 (by decide) ?_
  have q9 : X5_entries S2 0 = some (0, 4) := w_entries0 (z := 4) h2 (by decide +kernel)
  refine x_ci0 (x_runV C (As := [.int 0]) (rest := []) (c_X5_entries_ok q9) (cw_L_masters_X5_entries C) 32 rfl rfl rfl (Nat.le_of_ble_eq_true rfl) dL_masters_111 ⟨by show _ ≤ 939; omega, by show _ ≤ 6726; omega⟩) ?_
  refine x_iconst C (v := 4) dL_masters_114 (by decide) ?_
  refine x_icmp_ne C (t := 282) dL_masters_115 (by decide) (fun c9 => absurd c9 (by decide)) (fun _ => ?_)
  refine x_aload_n C 0 dL_masters_118 rfl ?_
  refine x_iconst C (v := 1) dL_masters_119 (by decide) ?_
  have q10 : X5_entries S2 1 = some (0, 2) := w_entries1 (z := 2) h2 (by decide +kernel)
  refine x_ci0 (x_runV C (As := [.int 1]) (rest := []) (c_X5_entries_ok q10) (cw_L_masters_X5_entries C) 32 rfl rfl rfl (Nat.le_of_ble_eq_true rfl) dL_masters_120 ⟨by show _ ≤ 939; omega, by show _ ≤ 6726; omega⟩) ?_
  refine x_iconst C (v := 2) dL_masters_123 (by decide) ?_
  refine x_icmp_ne C (t := 282) dL_masters_124 (by decide) (fun c9 => absurd c9 (by decide)) (fun _ => ?_)
  refine x_aload_n C 0 dL_masters_127 rfl ?_
  have q11 : X5_areAlike S2 = some 0 := w_alike_f (k := 2) h2 (by decide +kernel)
  refine x_ci0 (x_runV C (As := []) (rest := []) (c_X5_areAlike q11) (cw_L_masters_X5_areAlike C) 32 rfl rfl rfl (Nat.le_of_ble_eq_true rfl) dL_masters_128 ⟨by show _ ≤ 939; omega, by show _ ≤ 6726; omega⟩) ?_
  refine x_if_ne C (t := 282) dL_masters_131 (by decide) (fun c9 => absurd c9 (by decide)) (fun _ => ?_)
  exact x_widen (by omega) (by omega) (K _ h2)
set_option maxHeartbeats 4000000 in
set_option maxRecDepth 100000 in
theorem mvs1 {p : Program} {l : Launch} {e : Env} {s : State} {m : MethodId} {args : Array Value} {below : List Frame} {meth : Method} {c : Code} {D : va_G} {cI cZ cJ : ClassId} {ad : Nat → Nat} {S0 : St} {rest w0 : va_W} {Q : State → Prop} {kk jj : Nat} (hfl : l.stackTraces = false) (C : XC p rm_L_masters s m args meth c cL_masters 1 (some .boolean) RL wsL_masters D (t3 cI cZ cJ)) (hX : XS (va_A w0 s.heap.size) s s.heap) (hN : NC s) (h0 : CS S0 mv2) (hk : kk + 2 ≤ 939) (hj : jj + 12 ≤ 6726) (K : ∀ S', CS S' mv4 → XW p l e rm_L_masters s m args below meth c D w0 1 Q (wE cI cZ ad S' (eo ad (ad 0) (ad 7) rest)) (kk + 2) (jj + 12) 264 [(0, .ref (ad 32))] []) : XW p l e rm_L_masters s m args below meth c D w0 1 Q (wE cI cZ ad S0 (eo ad (ad 0) (ad 7) rest)) kk jj 134 [(0, .ref (ad 32))] [] := by
  refine x_aload_n C 0 dL_masters_134 rfl ?_
  refine x_iconst C (v := 0) dL_masters_135 (by decide) ?_
  refine x_iconst C (v := 0) dL_masters_136 (by decide) ?_
  refine x_iconst C (v := 0) dL_masters_137 (by decide) ?_
  refine x_bipush C (v := 55) dL_masters_138 (by decide) ?_
  refine x_iconst C (v := 0) dL_masters_140 (by decide) ?_
  have q1 : X5_add S0 0 0 55 0 = some (3, 0, S0) := w_add_hit (p := 0) (l := 55) (i := 0) (k := 2) h0 (by decide +kernel)
  refine x_ci (mc := 1) (ms := 6) (x_runSW C hX hN (As := [.ref (ad 32), .int 0, .int 0, .int 0, .int 55, .int 0]) (rest := []) (c_L_act_add_th2 hfl q1) (cw_L_masters_L_act_th C) rfl (Nat.le_of_ble_eq_true rfl) dL_masters_141 ⟨by show _ ≤ 939; omega, by show _ ≤ 6726; omega⟩) ?_
  refine x_bipush C (v := (-73)) dL_masters_144 (by decide) ?_
  refine x_icmp_ne C (t := 282) dL_masters_146 (by decide) (fun c9 => absurd c9 (by decide)) (fun _ => ?_)
  refine x_aload_n C 0 dL_masters_149 rfl ?_
  refine x_iconst C (v := 0) dL_masters_150 (by decide) ?_
  refine x_iconst C (v := 0) dL_masters_151 (by decide) ?_
  refine x_iconst C (v := 0) dL_masters_152 (by decide) ?_
  refine x_bipush C (v := 49) dL_masters_153 (by decide) ?_
  refine x_iconst C (v := 0) dL_masters_155 (by decide) ?_
  have q2 : X5_add S0 0 0 49 0 = some (3, 0, S0) := w_add_hit (p := 0) (l := 49) (i := 0) (k := 1) h0 (by decide +kernel)
  refine x_ci (mc := 1) (ms := 6) (x_runSW C hX hN (As := [.ref (ad 32), .int 0, .int 0, .int 0, .int 49, .int 0]) (rest := []) (c_L_act_add_th2 hfl q2) (cw_L_masters_L_act_th C) rfl (Nat.le_of_ble_eq_true rfl) dL_masters_156 ⟨by show _ ≤ 939; omega, by show _ ≤ 6726; omega⟩) ?_
  refine x_bipush C (v := (-73)) dL_masters_159 (by decide) ?_
  refine x_icmp_ne C (t := 282) dL_masters_161 (by decide) (fun c9 => absurd c9 (by decide)) (fun _ => ?_)
  refine x_aload_n C 0 dL_masters_164 rfl ?_
  refine x_iconst C (v := 0) dL_masters_165 (by decide) ?_
  refine x_iconst C (v := 0) dL_masters_166 (by decide) ?_
  refine x_bipush C (v := 55) dL_masters_167 (by decide) ?_
  have q3 : X5_find S0 0 0 55 = some (0, 2) := w_find0 (p := 0) (l := 55) (k := 2) h0 (by decide +kernel)
  refine x_ci0 (x_runV C (As := [.int 0, .int 0, .int 55]) (rest := []) (c_X5_find_ok q3) (cw_L_masters_X5_find C) 32 rfl rfl rfl (Nat.le_of_ble_eq_true rfl) dL_masters_169 ⟨by show _ ≤ 939; omega, by show _ ≤ 6726; omega⟩) ?_
  refine x_iconst C (v := 2) dL_masters_172 (by decide) ?_
  refine x_icmp_ne C (t := 282) dL_masters_173 (by decide) (fun c9 => absurd c9 (by decide)) (fun _ => ?_)
  refine x_aload_n C 0 dL_masters_176 rfl ?_
  refine x_iconst C (v := 0) dL_masters_177 (by decide) ?_
  refine x_iconst C (v := 2) dL_masters_178 (by decide) ?_
  refine x_bipush C (v := 57) dL_masters_179 (by decide) ?_
  have q4 : X5_find S0 0 2 57 = some (0, 3) := w_find0 (p := 2) (l := 57) (k := 3) h0 (by decide +kernel)
  refine x_ci0 (x_runV C (As := [.int 0, .int 2, .int 57]) (rest := []) (c_X5_find_ok q4) (cw_L_masters_X5_find C) 32 rfl rfl rfl (Nat.le_of_ble_eq_true rfl) dL_masters_181 ⟨by show _ ≤ 939; omega, by show _ ≤ 6726; omega⟩) ?_
  refine x_iconst C (v := 3) dL_masters_184 (by decide) ?_
  refine x_icmp_ne C (t := 282) dL_masters_185 (by decide) (fun c9 => absurd c9 (by decide)) (fun _ => ?_)
  refine x_aload_n C 0 dL_masters_188 rfl ?_
  refine x_iconst C (v := 0) dL_masters_189 (by decide) ?_
  refine x_iconst C (v := 3) dL_masters_190 (by decide) ?_
  refine x_iconst C (v := 0) dL_masters_191 (by decide) ?_
  have q5 : X5_find S0 0 3 0 = some (0, -1) := w_findno0 (p := 3) (l := 0) h0 (by decide +kernel)
  refine x_ci0 (x_runV C (As := [.int 0, .int 3, .int 0]) (rest := []) (c_X5_find_ok q5) (cw_L_masters_X5_find C) 32 rfl rfl rfl (Nat.le_of_ble_eq_true rfl) dL_masters_192 ⟨by show _ ≤ 939; omega, by show _ ≤ 6726; omega⟩) ?_
  refine x_iconst C (v := (-1)) dL_masters_195 (by decide) ?_
  refine x_icmp_ne C (t := 282) dL_masters_196 (by decide) (fun c9 => absurd c9 (by decide)) (fun _ => ?_)
  refine x_aload_n C 0 dL_masters_199 rfl ?_
  refine x_iconst C (v := 1) dL_masters_200 (by decide) ?_
  refine x_iconst C (v := 1) dL_masters_201 (by decide) ?_
  obtain ⟨S1, f1, g1⟩ := w_carry1 (p := 1) (L9 := [1]) h0 (by decide +kernel)
  have e1 : X5_carry S0 1 1 = some (0, 1, S1) := f1
  have h1 : CS S1 mv3 := g1
  refine x_ci0 (x_runV C (As := [.int 1, .int 1]) (rest := []) (c_X5_carry_ok e1) (cw_L_masters_X5_carry C) 32 rfl rfl rfl (Nat.le_of_ble_eq_true rfl) dL_masters_202 ⟨by show _ ≤ 939; omega, by show _ ≤ 6726; omega⟩) ?_
  refine x_if_eq C (t := 282) dL_masters_205 (by decide) (fun c9 => absurd c9 (by decide)) (fun _ => ?_)
  refine x_aload_n C 0 dL_masters_208 rfl ?_
  refine x_iconst C (v := 1) dL_masters_209 (by decide) ?_
  refine x_iconst C (v := 3) dL_masters_210 (by decide) ?_
  refine x_iconst C (v := 1) dL_masters_211 (by decide) ?_
  refine x_bipush C (v := 7) dL_masters_212 (by decide) ?_
  obtain ⟨u6, v6, w6⟩ := w_at1 (p := 3) (v := 1) (o := (some 7)) h1 (by decide +kernel)
  have x6 : X5_isThere S1 1 3 = some (0, 1) := u6
  have y6 : X5_parentOf S1 1 3 = some (0, 1) := v6
  have z6 : X5_labelOf S1 1 3 = some (0, 7) := w6
  refine x_ci0 (x_runS C (As := [.ref (ad 32), .int 1, .int 3, .int 1, .int 7]) (rest := []) (c_L_at x6 y6 z6) (cw_L_masters_L_at C) rfl (Nat.le_of_ble_eq_true rfl) dL_masters_214 ⟨by show _ ≤ 939; omega, by show _ ≤ 6726; omega⟩) ?_
  refine x_if_eq C (t := 282) dL_masters_217 (by decide) (fun c9 => absurd c9 (by decide)) (fun _ => ?_)
  refine x_aload_n C 0 dL_masters_220 rfl ?_
  have q7 : X5_areAlike S1 = some 0 := w_alike_f (k := 2) h1 (by decide +kernel)
  refine x_ci0 (x_runV C (As := []) (rest := []) (c_X5_areAlike q7) (cw_L_masters_X5_areAlike C) 32 rfl rfl rfl (Nat.le_of_ble_eq_true rfl) dL_masters_221 ⟨by show _ ≤ 939; omega, by show _ ≤ 6726; omega⟩) ?_
  refine x_if_ne C (t := 282) dL_masters_224 (by decide) (fun c9 => absurd c9 (by decide)) (fun _ => ?_)
  refine x_aload_n C 0 dL_masters_227 rfl ?_
  refine x_iconst C (v := 0) dL_masters_228 (by decide) ?_
  refine x_iconst C (v := 1) dL_masters_229 (by decide) ?_
  obtain ⟨S2, f2, g2⟩ := w_carry1 (p := 0) (L9 := [0, 1]) h1 (by decide +kernel)
  have e2 : X5_carry S1 0 1 = some (0, 1, S2) := f2
  have h2 : CS S2 mv4 := g2
  refine x_ci0 (x_runV C (As := [.int 0, .int 1]) (rest := []) (c_X5_carry_ok e2) (cw_L_masters_X5_carry C) 32 rfl rfl rfl (Nat.le_of_ble_eq_true rfl) dL_masters_230 ⟨by show _ ≤ 939; omega, by show _ ≤ 6726; omega⟩) ?_
  refine x_if_eq C (t := 282) dL_masters_233 (by decide) (fun c9 => absurd c9 (by decide)) (fun _ => ?_)
  refine x_aload_n C 0 dL_masters_236 rfl ?_
  refine x_iconst C (v := 1) dL_masters_237 (by decide) ?_
  refine x_iconst C (v := 3) dL_masters_238 (by decide) ?_
  refine x_iconst C (v := 2) dL_masters_239 (by decide) ?_
  refine x_bipush C (v := 7) dL_masters_240 (by decide) ?_
  obtain ⟨u8, v8, w8⟩ := w_at1 (p := 3) (v := 2) (o := (some 7)) h2 (by decide +kernel)
  have x8 : X5_isThere S2 1 3 = some (0, 1) := u8
  have y8 : X5_parentOf S2 1 3 = some (0, 2) := v8
  have z8 : X5_labelOf S2 1 3 = some (0, 7) := w8
  refine x_ci0 (x_runS C (As := [.ref (ad 32), .int 1, .int 3, .int 2, .int 7]) (rest := []) (c_L_at x8 y8 z8) (cw_L_masters_L_at C) rfl (Nat.le_of_ble_eq_true rfl) dL_masters_242 ⟨by show _ ≤ 939; omega, by show _ ≤ 6726; omega⟩) ?_
  refine x_if_eq C (t := 282) dL_masters_245 (by decide) (fun c9 => absurd c9 (by decide)) (fun _ => ?_)
  refine x_aload_n C 0 dL_masters_248 rfl ?_
  have q9 : X5_areAlike S2 = some 1 := w_alike_t h2 (by decide +kernel)
  refine x_ci0 (x_runV C (As := []) (rest := []) (c_X5_areAlike q9) (cw_L_masters_X5_areAlike C) 32 rfl rfl rfl (Nat.le_of_ble_eq_true rfl) dL_masters_249 ⟨by show _ ≤ 939; omega, by show _ ≤ 6726; omega⟩) ?_
  refine x_if_eq C (t := 282) dL_masters_252 (by decide) (fun c9 => absurd c9 (by decide)) (fun _ => ?_)
  refine x_aload_n C 0 dL_masters_255 rfl ?_
  refine x_iconst C (v := 0) dL_masters_256 (by decide) ?_
  refine x_iconst C (v := 1) dL_masters_257 (by decide) ?_
  have q10 : X5_carry S2 0 1 = some (0, 0, S2) := w_carryno1 (p := 0) h2 (by decide +kernel)
  refine x_ci0 (x_runV C (As := [.int 0, .int 1]) (rest := []) (c_X5_carry_ok q10) (cw_L_masters_X5_carry C) 32 rfl rfl rfl (Nat.le_of_ble_eq_true rfl) dL_masters_258 ⟨by show _ ≤ 939; omega, by show _ ≤ 6726; omega⟩) ?_
  refine x_if_ne C (t := 282) dL_masters_261 (by decide) (fun c9 => absurd c9 (by decide)) (fun _ => ?_)
  exact x_widen (by omega) (by omega) (K _ h2)
set_option maxHeartbeats 4000000 in
set_option maxRecDepth 100000 in
theorem mvs2 {p : Program} {l : Launch} {e : Env} {s : State} {m : MethodId} {args : Array Value} {below : List Frame} {meth : Method} {c : Code} {D : va_G} {cI cZ cJ : ClassId} {ad : Nat → Nat} {S0 : St} {rest w0 : va_W} {Q : State → Prop} {kk jj : Nat} (hfl : l.stackTraces = false) (C : XC p rm_L_masters s m args meth c cL_masters 1 (some .boolean) RL wsL_masters D (t3 cI cZ cJ)) (hX : XS (va_A w0 s.heap.size) s s.heap) (hN : NC s) (h0 : CS S0 mv4) (hk : kk + 225 ≤ 939) (hj : jj + 1350 ≤ 6726) (K : ∀ S', CS S' mv7 → XW p l e rm_L_masters s m args below meth c D w0 1 Q (wE cI cZ ad S' (eo ad (ad 0) (ad 7) rest)) (kk + 225) (jj + 1350) 349 [(0, .ref (ad 32))] []) : XW p l e rm_L_masters s m args below meth c D w0 1 Q (wE cI cZ ad S0 (eo ad (ad 0) (ad 7) rest)) kk jj 264 [(0, .ref (ad 32))] [] := by
  refine x_aload_n C 0 dL_masters_264 rfl ?_
  refine x_iconst C (v := 0) dL_masters_265 (by decide) ?_
  refine x_iconst C (v := 0) dL_masters_266 (by decide) ?_
  have q1 : X5_carry S0 0 0 = some (0, 0, S0) := w_carryno0 (p := 0) h0 (by decide +kernel)
  refine x_ci0 (x_runV C (As := [.int 0, .int 0]) (rest := []) (c_X5_carry_ok q1) (cw_L_masters_X5_carry C) 32 rfl rfl rfl (Nat.le_of_ble_eq_true rfl) dL_masters_267 ⟨by show _ ≤ 939; omega, by show _ ≤ 6726; omega⟩) ?_
  refine x_if_ne C (t := 282) dL_masters_270 (by decide) (fun c9 => absurd c9 (by decide)) (fun _ => ?_)
  refine x_aload_n C 0 dL_masters_273 rfl ?_
  refine x_iconst C (v := 0) dL_masters_274 (by decide) ?_
  refine x_iconst C (v := 4) dL_masters_275 (by decide) ?_
  have r2 : RFS S0 2 0 4 := w_rfs (p := 4) (z := 2) (k := 0) h0 (by decide +kernel)
  refine x_ci (mc := 225) (ms := 1350) (x_runSY C hX hN (As := [.ref (ad 32), .int (nI 0), .int (nI 4)]) (rest := []) (c_L_refuses hfl r2) (cw_L_masters_L_refuses C) rfl (Nat.le_of_ble_eq_true rfl) dL_masters_276 ⟨by show _ ≤ 939; omega, by show _ ≤ 6726; omega⟩) ?_
  refine x_if_ne C (t := 284) dL_masters_279 (by decide) (fun _ => ?_) (fun c9 => absurd c9 (by decide))
  refine x_aload_n C 0 dL_masters_284 rfl ?_
  refine x_iconst C (v := 0) dL_masters_285 (by decide) ?_
  refine x_iconst C (v := 0) dL_masters_286 (by decide) ?_
  refine x_bipush C (v := 10) dL_masters_287 (by decide) ?_
  refine x_iconst C (v := 0) dL_masters_289 (by decide) ?_
  obtain ⟨S1, f1, g1⟩ := w_add0 (t := 3) (p := 0) (l := 10) (i := 0) (z := 4) (L9 := [0, 1, 2]) h0 (by decide +kernel)
  have e1 : X5_add S0 0 0 10 0 = some (0, 4, S1) := f1
  have h1 : CS S1 mv5 := g1
  refine x_ci0 (x_runV C (As := [.int 0, .int 0, .int 10, .int 0]) (rest := []) (c_X5_add_ok e1) (cw_L_masters_X5_add C) 32 rfl rfl rfl (Nat.le_of_ble_eq_true rfl) dL_masters_290 ⟨by show _ ≤ 939; omega, by show _ ≤ 6726; omega⟩) ?_
  refine x_iconst C (v := 4) dL_masters_293 (by decide) ?_
  refine x_icmp_ne C (t := 511) dL_masters_294 (by decide) (fun c9 => absurd c9 (by decide)) (fun _ => ?_)
  refine x_aload_n C 0 dL_masters_297 rfl ?_
  refine x_iconst C (v := 1) dL_masters_298 (by decide) ?_
  refine x_iconst C (v := 0) dL_masters_299 (by decide) ?_
  refine x_bipush C (v := 60) dL_masters_300 (by decide) ?_
  refine x_iconst C (v := 0) dL_masters_302 (by decide) ?_
  obtain ⟨S2, f2, g2⟩ := w_add1 (t := 3) (p := 0) (l := 60) (i := 0) (z := 5) (L9 := [0, 1, 3]) h1 (by decide +kernel)
  have e2 : X5_add S1 1 0 60 0 = some (0, 5, S2) := f2
  have h2 : CS S2 mv6 := g2
  refine x_ci0 (x_runV C (As := [.int 1, .int 0, .int 60, .int 0]) (rest := []) (c_X5_add_ok e2) (cw_L_masters_X5_add C) 32 rfl rfl rfl (Nat.le_of_ble_eq_true rfl) dL_masters_303 ⟨by show _ ≤ 939; omega, by show _ ≤ 6726; omega⟩) ?_
  refine x_iconst C (v := 5) dL_masters_306 (by decide) ?_
  refine x_icmp_ne C (t := 511) dL_masters_307 (by decide) (fun c9 => absurd c9 (by decide)) (fun _ => ?_)
  refine x_aload_n C 0 dL_masters_310 rfl ?_
  refine x_iconst C (v := 2) dL_masters_311 (by decide) ?_
  have q3 : X5_timeOf S2 2 = some (0, 3) := w_timeOf (p := 2) (z := 3) h2 (by decide +kernel)
  refine x_ci0 (x_runV C (As := [.int 2]) (rest := []) (c_X5_timeOf_ok q3) (cw_L_masters_X5_timeOf C) 32 rfl rfl rfl (Nat.le_of_ble_eq_true rfl) dL_masters_312 ⟨by show _ ≤ 939; omega, by show _ ≤ 6726; omega⟩) ?_
  refine x_iconst C (v := 3) dL_masters_315 (by decide) ?_
  refine x_icmp_ne C (t := 511) dL_masters_316 (by decide) (fun c9 => absurd c9 (by decide)) (fun _ => ?_)
  refine x_aload_n C 0 dL_masters_319 rfl ?_
  refine x_iconst C (v := 3) dL_masters_320 (by decide) ?_
  have q4 : X5_timeOf S2 3 = some (0, 3) := w_timeOf (p := 3) (z := 3) h2 (by decide +kernel)
  refine x_ci0 (x_runV C (As := [.int 3]) (rest := []) (c_X5_timeOf_ok q4) (cw_L_masters_X5_timeOf C) 32 rfl rfl rfl (Nat.le_of_ble_eq_true rfl) dL_masters_321 ⟨by show _ ≤ 939; omega, by show _ ≤ 6726; omega⟩) ?_
  refine x_iconst C (v := 3) dL_masters_324 (by decide) ?_
  refine x_icmp_ne C (t := 511) dL_masters_325 (by decide) (fun c9 => absurd c9 (by decide)) (fun _ => ?_)
  refine x_aload_n C 0 dL_masters_328 rfl ?_
  refine x_iconst C (v := 1) dL_masters_329 (by decide) ?_
  refine x_iconst C (v := 5) dL_masters_330 (by decide) ?_
  refine x_iconst C (v := 0) dL_masters_331 (by decide) ?_
  refine x_bipush C (v := 60) dL_masters_332 (by decide) ?_
  obtain ⟨u5, v5, w5⟩ := w_at1 (p := 5) (v := 0) (o := (some 60)) h2 (by decide +kernel)
  have x5 : X5_isThere S2 1 5 = some (0, 1) := u5
  have y5 : X5_parentOf S2 1 5 = some (0, 0) := v5
  have z5 : X5_labelOf S2 1 5 = some (0, 60) := w5
  refine x_ci0 (x_runS C (As := [.ref (ad 32), .int 1, .int 5, .int 0, .int 60]) (rest := []) (c_L_at x5 y5 z5) (cw_L_masters_L_at C) rfl (Nat.le_of_ble_eq_true rfl) dL_masters_334 ⟨by show _ ≤ 939; omega, by show _ ≤ 6726; omega⟩) ?_
  refine x_if_eq C (t := 511) dL_masters_337 (by decide) (fun c9 => absurd c9 (by decide)) (fun _ => ?_)
  refine x_aload_n C 0 dL_masters_340 rfl ?_
  refine x_iconst C (v := 2) dL_masters_341 (by decide) ?_
  refine x_iconst C (v := 1) dL_masters_342 (by decide) ?_
  obtain ⟨S3, f3, g3⟩ := w_carry1 (p := 2) (L9 := [0, 1, 2, 3]) h2 (by decide +kernel)
  have e3 : X5_carry S2 2 1 = some (0, 1, S3) := f3
  have h3 : CS S3 mv7 := g3
  refine x_ci0 (x_runV C (As := [.int 2, .int 1]) (rest := []) (c_X5_carry_ok e3) (cw_L_masters_X5_carry C) 32 rfl rfl rfl (Nat.le_of_ble_eq_true rfl) dL_masters_343 ⟨by show _ ≤ 939; omega, by show _ ≤ 6726; omega⟩) ?_
  refine x_if_eq C (t := 511) dL_masters_346 (by decide) (fun c9 => absurd c9 (by decide)) (fun _ => ?_)
  exact x_widen (by omega) (by omega) (K _ h3)
set_option maxHeartbeats 4000000 in
set_option maxRecDepth 100000 in
theorem mvs3 {p : Program} {l : Launch} {e : Env} {s : State} {m : MethodId} {args : Array Value} {below : List Frame} {meth : Method} {c : Code} {D : va_G} {cI cZ cJ : ClassId} {ad : Nat → Nat} {S0 : St} {rest w0 : va_W} {Q : State → Prop} {kk jj : Nat} (hfl : l.stackTraces = false) (C : XC p rm_L_masters s m args meth c cL_masters 1 (some .boolean) RL wsL_masters D (t3 cI cZ cJ)) (hX : XS (va_A w0 s.heap.size) s s.heap) (hN : NC s) (h0 : CS S0 mv7) (hk : kk + 0 ≤ 939) (hj : jj + 0 ≤ 6726) (K : ∀ S', CS S' mv10 → XW p l e rm_L_masters s m args below meth c D w0 1 Q (wE cI cZ ad S' (eo ad (ad 0) (ad 7) rest)) kk jj 431 [(0, .ref (ad 32))] []) : XW p l e rm_L_masters s m args below meth c D w0 1 Q (wE cI cZ ad S0 (eo ad (ad 0) (ad 7) rest)) kk jj 349 [(0, .ref (ad 32))] [] := by
  refine x_aload_n C 0 dL_masters_349 rfl ?_
  refine x_iconst C (v := 1) dL_masters_350 (by decide) ?_
  refine x_iconst C (v := 5) dL_masters_351 (by decide) ?_
  refine x_iconst C (v := 0) dL_masters_352 (by decide) ?_
  refine x_iconst C (v := (-1)) dL_masters_353 (by decide) ?_
  obtain ⟨u1, v1, w1⟩ := w_at1 (p := 5) (v := 0) (o := none) h0 (by decide +kernel)
  have x1 : X5_isThere S0 1 5 = some (0, 1) := u1
  have y1 : X5_parentOf S0 1 5 = some (0, 0) := v1
  have z1 : X5_labelOf S0 1 5 = some (0, (-1)) := w1
  refine x_ci0 (x_runS C (As := [.ref (ad 32), .int 1, .int 5, .int 0, .int (-1)]) (rest := []) (c_L_at x1 y1 z1) (cw_L_masters_L_at C) rfl (Nat.le_of_ble_eq_true rfl) dL_masters_354 ⟨by show _ ≤ 939; omega, by show _ ≤ 6726; omega⟩) ?_
  refine x_if_eq C (t := 511) dL_masters_357 (by decide) (fun c9 => absurd c9 (by decide)) (fun _ => ?_)
  refine x_aload_n C 0 dL_masters_360 rfl ?_
  refine x_iconst C (v := 3) dL_masters_361 (by decide) ?_
  refine x_iconst C (v := 0) dL_masters_362 (by decide) ?_
  obtain ⟨S1, f1, g1⟩ := w_carry0 (p := 3) (L9 := [0, 1, 2, 3]) h0 (by decide +kernel)
  have e1 : X5_carry S0 3 0 = some (0, 1, S1) := f1
  have h1 : CS S1 mv8 := g1
  refine x_ci0 (x_runV C (As := [.int 3, .int 0]) (rest := []) (c_X5_carry_ok e1) (cw_L_masters_X5_carry C) 32 rfl rfl rfl (Nat.le_of_ble_eq_true rfl) dL_masters_363 ⟨by show _ ≤ 939; omega, by show _ ≤ 6726; omega⟩) ?_
  refine x_if_eq C (t := 511) dL_masters_366 (by decide) (fun c9 => absurd c9 (by decide)) (fun _ => ?_)
  refine x_aload_n C 0 dL_masters_369 rfl ?_
  refine x_iconst C (v := 0) dL_masters_370 (by decide) ?_
  refine x_iconst C (v := 5) dL_masters_371 (by decide) ?_
  refine x_iconst C (v := 0) dL_masters_372 (by decide) ?_
  refine x_iconst C (v := (-1)) dL_masters_373 (by decide) ?_
  obtain ⟨u2, v2, w2⟩ := w_at0 (p := 5) (v := 0) (o := none) h1 (by decide +kernel)
  have x2 : X5_isThere S1 0 5 = some (0, 1) := u2
  have y2 : X5_parentOf S1 0 5 = some (0, 0) := v2
  have z2 : X5_labelOf S1 0 5 = some (0, (-1)) := w2
  refine x_ci0 (x_runS C (As := [.ref (ad 32), .int 0, .int 5, .int 0, .int (-1)]) (rest := []) (c_L_at x2 y2 z2) (cw_L_masters_L_at C) rfl (Nat.le_of_ble_eq_true rfl) dL_masters_374 ⟨by show _ ≤ 939; omega, by show _ ≤ 6726; omega⟩) ?_
  refine x_if_eq C (t := 511) dL_masters_377 (by decide) (fun c9 => absurd c9 (by decide)) (fun _ => ?_)
  refine x_aload_n C 0 dL_masters_380 rfl ?_
  refine x_iconst C (v := 0) dL_masters_381 (by decide) ?_
  refine x_iconst C (v := 4) dL_masters_382 (by decide) ?_
  refine x_iconst C (v := 0) dL_masters_383 (by decide) ?_
  refine x_bipush C (v := 10) dL_masters_384 (by decide) ?_
  obtain ⟨u3, v3, w3⟩ := w_at0 (p := 4) (v := 0) (o := (some 10)) h1 (by decide +kernel)
  have x3 : X5_isThere S1 0 4 = some (0, 1) := u3
  have y3 : X5_parentOf S1 0 4 = some (0, 0) := v3
  have z3 : X5_labelOf S1 0 4 = some (0, 10) := w3
  refine x_ci0 (x_runS C (As := [.ref (ad 32), .int 0, .int 4, .int 0, .int 10]) (rest := []) (c_L_at x3 y3 z3) (cw_L_masters_L_at C) rfl (Nat.le_of_ble_eq_true rfl) dL_masters_386 ⟨by show _ ≤ 939; omega, by show _ ≤ 6726; omega⟩) ?_
  refine x_if_eq C (t := 511) dL_masters_389 (by decide) (fun c9 => absurd c9 (by decide)) (fun _ => ?_)
  refine x_aload_n C 0 dL_masters_392 rfl ?_
  have q4 : X5_areAlike S1 = some 1 := w_alike_t h1 (by decide +kernel)
  refine x_ci0 (x_runV C (As := []) (rest := []) (c_X5_areAlike q4) (cw_L_masters_X5_areAlike C) 32 rfl rfl rfl (Nat.le_of_ble_eq_true rfl) dL_masters_393 ⟨by show _ ≤ 939; omega, by show _ ≤ 6726; omega⟩) ?_
  refine x_if_eq C (t := 511) dL_masters_396 (by decide) (fun c9 => absurd c9 (by decide)) (fun _ => ?_)
  refine x_aload_n C 0 dL_masters_399 rfl ?_
  refine x_iconst C (v := 0) dL_masters_400 (by decide) ?_
  refine x_iconst C (v := 3) dL_masters_401 (by decide) ?_
  obtain ⟨S2, f2, g2⟩ := w_delete0 (t := 4) (p := 3) (z := 5) (L9 := [0, 1, 2, 3, 4]) h1 (by decide +kernel)
  have e2 : X5_delete S1 0 3 = some (0, 5, S2) := f2
  have h2 : CS S2 mv9 := g2
  refine x_ci0 (x_runV C (As := [.int 0, .int 3]) (rest := []) (c_X5_delete_ok e2) (cw_L_masters_X5_delete C) 32 rfl rfl rfl (Nat.le_of_ble_eq_true rfl) dL_masters_402 ⟨by show _ ≤ 939; omega, by show _ ≤ 6726; omega⟩) ?_
  refine x_iconst C (v := 5) dL_masters_405 (by decide) ?_
  refine x_icmp_ne C (t := 511) dL_masters_406 (by decide) (fun c9 => absurd c9 (by decide)) (fun _ => ?_)
  refine x_aload_n C 0 dL_masters_409 rfl ?_
  refine x_iconst C (v := 0) dL_masters_410 (by decide) ?_
  refine x_iconst C (v := 3) dL_masters_411 (by decide) ?_
  have q5 : X5_isThere S2 0 3 = some (0, 0) := w_there0 (p := 3) (b := false) h2 (by decide +kernel)
  refine x_ci0 (x_runV C (As := [.int 0, .int 3]) (rest := []) (c_X5_isThere_ok q5) (cw_L_masters_X5_isThere C) 32 rfl rfl rfl (Nat.le_of_ble_eq_true rfl) dL_masters_412 ⟨by show _ ≤ 939; omega, by show _ ≤ 6726; omega⟩) ?_
  refine x_if_ne C (t := 511) dL_masters_415 (by decide) (fun c9 => absurd c9 (by decide)) (fun _ => ?_)
  refine x_aload_n C 0 dL_masters_418 rfl ?_
  refine x_iconst C (v := 1) dL_masters_419 (by decide) ?_
  refine x_iconst C (v := 3) dL_masters_420 (by decide) ?_
  refine x_iconst C (v := 1) dL_masters_421 (by decide) ?_
  refine x_iconst C (v := 0) dL_masters_422 (by decide) ?_
  obtain ⟨S3, f3, g3⟩ := w_add1 (t := 4) (p := 3) (l := 1) (i := 0) (z := 7) (L9 := [0, 1, 2, 3, 5]) h2 (by decide +kernel)
  have e3 : X5_add S2 1 3 1 0 = some (0, 7, S3) := f3
  have h3 : CS S3 mv10 := g3
  refine x_ci0 (x_runV C (As := [.int 1, .int 3, .int 1, .int 0]) (rest := []) (c_X5_add_ok e3) (cw_L_masters_X5_add C) 32 rfl rfl rfl (Nat.le_of_ble_eq_true rfl) dL_masters_423 ⟨by show _ ≤ 939; omega, by show _ ≤ 6726; omega⟩) ?_
  refine x_bipush C (v := 7) dL_masters_426 (by decide) ?_
  refine x_icmp_ne C (t := 511) dL_masters_428 (by decide) (fun c9 => absurd c9 (by decide)) (fun _ => ?_)
  exact x_widen (by omega) (by omega) (K _ h3)
set_option maxHeartbeats 4000000 in
set_option maxRecDepth 100000 in
theorem mvs4 {p : Program} {l : Launch} {e : Env} {s : State} {m : MethodId} {args : Array Value} {below : List Frame} {meth : Method} {c : Code} {D : va_G} {cI cZ cJ : ClassId} {ad : Nat → Nat} {S0 : St} {rest w0 : va_W} {Q : State → Prop} {kk jj : Nat} (hfl : l.stackTraces = false) (C : XC p rm_L_masters s m args meth c cL_masters 1 (some .boolean) RL wsL_masters D (t3 cI cZ cJ)) (hX : XS (va_A w0 s.heap.size) s s.heap) (hN : NC s) (h0 : CS S0 mv10) (hk : kk + 225 ≤ 939) (hj : jj + 1350 ≤ 6726) (K : ∀ S', CS S' mv13 → XW p l e rm_L_masters s m args below meth c D w0 1 Q (wE cI cZ ad S' (eo ad (ad 0) (ad 7) rest)) (kk + 225) (jj + 1350) 527 [(0, .ref (ad 32))] []) : XW p l e rm_L_masters s m args below meth c D w0 1 Q (wE cI cZ ad S0 (eo ad (ad 0) (ad 7) rest)) kk jj 431 [(0, .ref (ad 32))] [] := by
  refine x_aload_n C 0 dL_masters_431 rfl ?_
  refine x_iconst C (v := 1) dL_masters_432 (by decide) ?_
  refine x_bipush C (v := 7) dL_masters_433 (by decide) ?_
  refine x_iconst C (v := 3) dL_masters_435 (by decide) ?_
  refine x_iconst C (v := 1) dL_masters_436 (by decide) ?_
  obtain ⟨u1, v1, w1⟩ := w_at1 (p := 7) (v := 3) (o := (some 1)) h0 (by decide +kernel)
  have x1 : X5_isThere S0 1 7 = some (0, 1) := u1
  have y1 : X5_parentOf S0 1 7 = some (0, 3) := v1
  have z1 : X5_labelOf S0 1 7 = some (0, 1) := w1
  refine x_ci0 (x_runS C (As := [.ref (ad 32), .int 1, .int 7, .int 3, .int 1]) (rest := []) (c_L_at x1 y1 z1) (cw_L_masters_L_at C) rfl (Nat.le_of_ble_eq_true rfl) dL_masters_437 ⟨by show _ ≤ 939; omega, by show _ ≤ 6726; omega⟩) ?_
  refine x_if_eq C (t := 511) dL_masters_440 (by decide) (fun c9 => absurd c9 (by decide)) (fun _ => ?_)
  refine x_aload_n C 0 dL_masters_443 rfl ?_
  refine x_iconst C (v := 5) dL_masters_444 (by decide) ?_
  refine x_iconst C (v := 0) dL_masters_445 (by decide) ?_
  obtain ⟨S1, f1, g1⟩ := w_carry0 (p := 5) (L9 := [0, 1, 2, 3, 4, 5]) h0 (by decide +kernel)
  have e1 : X5_carry S0 5 0 = some (0, 1, S1) := f1
  have h1 : CS S1 mv11 := g1
  refine x_ci0 (x_runV C (As := [.int 5, .int 0]) (rest := []) (c_X5_carry_ok e1) (cw_L_masters_X5_carry C) 32 rfl rfl rfl (Nat.le_of_ble_eq_true rfl) dL_masters_446 ⟨by show _ ≤ 939; omega, by show _ ≤ 6726; omega⟩) ?_
  refine x_if_eq C (t := 511) dL_masters_449 (by decide) (fun c9 => absurd c9 (by decide)) (fun _ => ?_)
  refine x_aload_n C 0 dL_masters_452 rfl ?_
  refine x_iconst C (v := 0) dL_masters_453 (by decide) ?_
  refine x_bipush C (v := 7) dL_masters_454 (by decide) ?_
  refine x_iconst C (v := 1) dL_masters_456 (by decide) ?_
  refine x_iconst C (v := 1) dL_masters_457 (by decide) ?_
  obtain ⟨u2, v2, w2⟩ := w_at0 (p := 7) (v := 1) (o := (some 1)) h1 (by decide +kernel)
  have x2 : X5_isThere S1 0 7 = some (0, 1) := u2
  have y2 : X5_parentOf S1 0 7 = some (0, 1) := v2
  have z2 : X5_labelOf S1 0 7 = some (0, 1) := w2
  refine x_ci0 (x_runS C (As := [.ref (ad 32), .int 0, .int 7, .int 1, .int 1]) (rest := []) (c_L_at x2 y2 z2) (cw_L_masters_L_at C) rfl (Nat.le_of_ble_eq_true rfl) dL_masters_458 ⟨by show _ ≤ 939; omega, by show _ ≤ 6726; omega⟩) ?_
  refine x_if_eq C (t := 511) dL_masters_461 (by decide) (fun c9 => absurd c9 (by decide)) (fun _ => ?_)
  refine x_aload_n C 0 dL_masters_464 rfl ?_
  refine x_iconst C (v := 4) dL_masters_465 (by decide) ?_
  refine x_iconst C (v := 1) dL_masters_466 (by decide) ?_
  obtain ⟨S2, f2, g2⟩ := w_carry1 (p := 4) (L9 := [0, 1, 2, 3, 4, 5]) h1 (by decide +kernel)
  have e2 : X5_carry S1 4 1 = some (0, 1, S2) := f2
  have h2 : CS S2 mv12 := g2
  refine x_ci0 (x_runV C (As := [.int 4, .int 1]) (rest := []) (c_X5_carry_ok e2) (cw_L_masters_X5_carry C) 32 rfl rfl rfl (Nat.le_of_ble_eq_true rfl) dL_masters_467 ⟨by show _ ≤ 939; omega, by show _ ≤ 6726; omega⟩) ?_
  refine x_if_eq C (t := 511) dL_masters_470 (by decide) (fun c9 => absurd c9 (by decide)) (fun _ => ?_)
  refine x_aload_n C 0 dL_masters_473 rfl ?_
  refine x_iconst C (v := 1) dL_masters_474 (by decide) ?_
  refine x_bipush C (v := 7) dL_masters_475 (by decide) ?_
  refine x_iconst C (v := 1) dL_masters_477 (by decide) ?_
  refine x_iconst C (v := 1) dL_masters_478 (by decide) ?_
  obtain ⟨u3, v3, w3⟩ := w_at1 (p := 7) (v := 1) (o := (some 1)) h2 (by decide +kernel)
  have x3 : X5_isThere S2 1 7 = some (0, 1) := u3
  have y3 : X5_parentOf S2 1 7 = some (0, 1) := v3
  have z3 : X5_labelOf S2 1 7 = some (0, 1) := w3
  refine x_ci0 (x_runS C (As := [.ref (ad 32), .int 1, .int 7, .int 1, .int 1]) (rest := []) (c_L_at x3 y3 z3) (cw_L_masters_L_at C) rfl (Nat.le_of_ble_eq_true rfl) dL_masters_479 ⟨by show _ ≤ 939; omega, by show _ ≤ 6726; omega⟩) ?_
  refine x_if_eq C (t := 511) dL_masters_482 (by decide) (fun c9 => absurd c9 (by decide)) (fun _ => ?_)
  refine x_aload_n C 0 dL_masters_485 rfl ?_
  refine x_iconst C (v := 1) dL_masters_486 (by decide) ?_
  refine x_bipush C (v := 6) dL_masters_487 (by decide) ?_
  have q4 : X5_isThere S2 1 6 = some (0, 0) := w_there1 (p := 6) (b := false) h2 (by decide +kernel)
  refine x_ci0 (x_runV C (As := [.int 1, .int 6]) (rest := []) (c_X5_isThere_ok q4) (cw_L_masters_X5_isThere C) 32 rfl rfl rfl (Nat.le_of_ble_eq_true rfl) dL_masters_489 ⟨by show _ ≤ 939; omega, by show _ ≤ 6726; omega⟩) ?_
  refine x_if_ne C (t := 511) dL_masters_492 (by decide) (fun c9 => absurd c9 (by decide)) (fun _ => ?_)
  refine x_aload_n C 0 dL_masters_495 rfl ?_
  have q5 : X5_areAlike S2 = some 1 := w_alike_t h2 (by decide +kernel)
  refine x_ci0 (x_runV C (As := []) (rest := []) (c_X5_areAlike q5) (cw_L_masters_X5_areAlike C) 32 rfl rfl rfl (Nat.le_of_ble_eq_true rfl) dL_masters_496 ⟨by show _ ≤ 939; omega, by show _ ≤ 6726; omega⟩) ?_
  refine x_if_eq C (t := 511) dL_masters_499 (by decide) (fun c9 => absurd c9 (by decide)) (fun _ => ?_)
  refine x_aload_n C 0 dL_masters_502 rfl ?_
  refine x_iconst C (v := 0) dL_masters_503 (by decide) ?_
  refine x_iconst C (v := 3) dL_masters_504 (by decide) ?_
  have r6 : RFS S2 6 0 3 := w_rfs (p := 3) (z := 6) (k := 0) h2 (by decide +kernel)
  refine x_ci (mc := 225) (ms := 1350) (x_runSY C hX hN (As := [.ref (ad 32), .int (nI 0), .int (nI 3)]) (rest := []) (c_L_refuses hfl r6) (cw_L_masters_L_refuses C) rfl (Nat.le_of_ble_eq_true rfl) dL_masters_505 ⟨by show _ ≤ 939; omega, by show _ ≤ 6726; omega⟩) ?_
  refine x_if_ne C (t := 513) dL_masters_508 (by decide) (fun _ => ?_) (fun c9 => absurd c9 (by decide))
  refine x_aload_n C 0 dL_masters_513 rfl ?_
  refine x_iconst C (v := 0) dL_masters_514 (by decide) ?_
  refine x_iconst C (v := 0) dL_masters_515 (by decide) ?_
  refine x_bipush C (v := 20) dL_masters_516 (by decide) ?_
  refine x_iconst C (v := 0) dL_masters_518 (by decide) ?_
  obtain ⟨S3, f3, g3⟩ := w_add0 (t := 5) (p := 0) (l := 20) (i := 0) (z := 8) (L9 := [0, 1, 2, 3, 4, 5, 6]) h2 (by decide +kernel)
  have e3 : X5_add S2 0 0 20 0 = some (0, 8, S3) := f3
  have h3 : CS S3 mv13 := g3
  refine x_ci0 (x_runV C (As := [.int 0, .int 0, .int 20, .int 0]) (rest := []) (c_X5_add_ok e3) (cw_L_masters_X5_add C) 32 rfl rfl rfl (Nat.le_of_ble_eq_true rfl) dL_masters_519 ⟨by show _ ≤ 939; omega, by show _ ≤ 6726; omega⟩) ?_
  refine x_bipush C (v := 8) dL_masters_522 (by decide) ?_
  refine x_icmp_ne C (t := 694) dL_masters_524 (by decide) (fun c9 => absurd c9 (by decide)) (fun _ => ?_)
  exact x_widen (by omega) (by omega) (K _ h3)
set_option maxHeartbeats 4000000 in
set_option maxRecDepth 100000 in
theorem mvs5 {p : Program} {l : Launch} {e : Env} {s : State} {m : MethodId} {args : Array Value} {below : List Frame} {meth : Method} {c : Code} {D : va_G} {cI cZ cJ : ClassId} {ad : Nat → Nat} {S0 : St} {rest w0 : va_W} {Q : State → Prop} {kk jj : Nat} (hfl : l.stackTraces = false) (C : XC p rm_L_masters s m args meth c cL_masters 1 (some .boolean) RL wsL_masters D (t3 cI cZ cJ)) (hX : XS (va_A w0 s.heap.size) s s.heap) (hN : NC s) (h0 : CS S0 mv13) (hk : kk + 0 ≤ 939) (hj : jj + 0 ≤ 6726) (K : ∀ S', CS S' mv16 → XW p l e rm_L_masters s m args below meth c D w0 1 Q (wE cI cZ ad S' (eo ad (ad 0) (ad 7) rest)) kk jj 571 [(0, .ref (ad 32))] []) : XW p l e rm_L_masters s m args below meth c D w0 1 Q (wE cI cZ ad S0 (eo ad (ad 0) (ad 7) rest)) kk jj 527 [(0, .ref (ad 32))] [] := by
  refine x_aload_n C 0 dL_masters_527 rfl ?_
  refine x_bipush C (v := 6) dL_masters_528 (by decide) ?_
  have q1 : X5_timeOf S0 6 = some (0, 5) := w_timeOf (p := 6) (z := 5) h0 (by decide +kernel)
  refine x_ci0 (x_runV C (As := [.int 6]) (rest := []) (c_X5_timeOf_ok q1) (cw_L_masters_X5_timeOf C) 32 rfl rfl rfl (Nat.le_of_ble_eq_true rfl) dL_masters_530 ⟨by show _ ≤ 939; omega, by show _ ≤ 6726; omega⟩) ?_
  refine x_iconst C (v := 5) dL_masters_533 (by decide) ?_
  refine x_icmp_ne C (t := 694) dL_masters_534 (by decide) (fun c9 => absurd c9 (by decide)) (fun _ => ?_)
  refine x_aload_n C 0 dL_masters_537 rfl ?_
  refine x_bipush C (v := 6) dL_masters_538 (by decide) ?_
  refine x_iconst C (v := 1) dL_masters_540 (by decide) ?_
  obtain ⟨S1, f1, g1⟩ := w_carry1 (p := 6) (L9 := [0, 1, 2, 3, 4, 5, 6]) h0 (by decide +kernel)
  have e1 : X5_carry S0 6 1 = some (0, 1, S1) := f1
  have h1 : CS S1 mv14 := g1
  refine x_ci0 (x_runV C (As := [.int 6, .int 1]) (rest := []) (c_X5_carry_ok e1) (cw_L_masters_X5_carry C) 32 rfl rfl rfl (Nat.le_of_ble_eq_true rfl) dL_masters_541 ⟨by show _ ≤ 939; omega, by show _ ≤ 6726; omega⟩) ?_
  refine x_if_eq C (t := 694) dL_masters_544 (by decide) (fun c9 => absurd c9 (by decide)) (fun _ => ?_)
  refine x_aload_n C 0 dL_masters_547 rfl ?_
  refine x_iconst C (v := 0) dL_masters_548 (by decide) ?_
  refine x_iconst C (v := 2) dL_masters_549 (by decide) ?_
  refine x_bipush C (v := 8) dL_masters_550 (by decide) ?_
  refine x_iconst C (v := 2) dL_masters_552 (by decide) ?_
  obtain ⟨S2, f2, g2⟩ := w_move0 (t := 6) (p := 2) (q := 8) (l := 2) (z := 0) (L9 := [0, 1, 2, 3, 4, 5, 6, 7]) h1 (by decide +kernel)
  have e2 : X5_move S1 0 2 8 2 = some (0, 0, S2) := f2
  have h2 : CS S2 mv15 := g2
  refine x_ci0 (x_runV C (As := [.int 0, .int 2, .int 8, .int 2]) (rest := []) (c_X5_move_ok e2) (cw_L_masters_X5_move C) 32 rfl rfl rfl (Nat.le_of_ble_eq_true rfl) dL_masters_553 ⟨by show _ ≤ 939; omega, by show _ ≤ 6726; omega⟩) ?_
  refine x_if_ne C (t := 694) dL_masters_556 (by decide) (fun c9 => absurd c9 (by decide)) (fun _ => ?_)
  refine x_aload_n C 0 dL_masters_559 rfl ?_
  refine x_iconst C (v := 1) dL_masters_560 (by decide) ?_
  refine x_bipush C (v := 8) dL_masters_561 (by decide) ?_
  refine x_iconst C (v := 2) dL_masters_563 (by decide) ?_
  refine x_iconst C (v := 3) dL_masters_564 (by decide) ?_
  obtain ⟨S3, f3, g3⟩ := w_move1 (t := 6) (p := 8) (q := 2) (l := 3) (z := 0) (L9 := [0, 1, 2, 3, 4, 5, 6, 8]) h2 (by decide +kernel)
  have e3 : X5_move S2 1 8 2 3 = some (0, 0, S3) := f3
  have h3 : CS S3 mv16 := g3
  refine x_ci0 (x_runV C (As := [.int 1, .int 8, .int 2, .int 3]) (rest := []) (c_X5_move_ok e3) (cw_L_masters_X5_move C) 32 rfl rfl rfl (Nat.le_of_ble_eq_true rfl) dL_masters_565 ⟨by show _ ≤ 939; omega, by show _ ≤ 6726; omega⟩) ?_
  refine x_if_ne C (t := 694) dL_masters_568 (by decide) (fun c9 => absurd c9 (by decide)) (fun _ => ?_)
  exact x_widen (by omega) (by omega) (K _ h3)
