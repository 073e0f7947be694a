set_option maxHeartbeats 4000000 in
set_option maxRecDepth 100000 in
theorem rs2_a {p : Program} {l : Launch} {e : Env} {s : State} {m : MethodId} {args : Array Value} {below : List Frame} {meth : Method} {c : Code} {D : va_G} {cI cZ cJ : ClassId} {ad : Nat → Nat} {S : St} {rest w0 : va_W} {Q : State → Prop} {n F g kk jj : Nat} {e0 e1 al : Int32} (hfl : l.stackTraces = false) (C : XC p rm_L_refuses s m args meth c cL_refuses 21 (some .boolean) RL wsL_refuses D (t3 cI cZ cJ)) (hX : XS (va_A w0 s.heap.size) s s.heap) (hN : NC s) (r : RFS S n F g) (hk : kk + 0 ≤ 225) (hj : jj + 0 ≤ 1350) (K : XW p l e rm_L_refuses s m args below meth c D w0 21 Q (wE cI cZ ad S (eo ad (ad 0) (ad 7) rest)) kk jj 194 [(0, .ref (ad 32)), (1, .int (nI F)), (2, .int (nI g)), (3, .int (nI n)), (4, .int e0), (5, .int e1), (6, .int al), (7, .int 2147483647), (8, .int 2), (9, .int 2147483647), (10, .int 2147483647), (11, .int 2147483647), (12, .int 2147483647), (13, .int 2147483647), (14, .int 2147483647), (15, .int 2147483647), (16, .int 2147483647), (17, .int 2147483647), (18, .int 2147483647)] []) : XW p l e rm_L_refuses s m args below meth c D w0 21 Q (wE cI cZ ad S (eo ad (ad 0) (ad 7) rest)) kk jj 32 [(0, .ref (ad 32)), (1, .int (nI F)), (2, .int (nI g)), (3, .int (nI n)), (4, .int e0), (5, .int e1), (6, .int al), (7, .int 2147483647), (8, .int 2)] [] := by
  refine x_iload C 8 dL_refuses_32 rfl ?_
  refine x_iconst C (v := 4) dL_refuses_34 (by decide) ?_
  refine x_icmp_ge C (t := 1118) dL_refuses_35 (by decide) (fun c9 => absurd c9 (by decide)) (fun _ => ?_)
  refine x_iload C 8 dL_refuses_38 rfl ?_
  refine x_if_ne C (t := 47) dL_refuses_40 (by decide) (fun _ => ?_) (fun c9 => absurd c9 (by decide))
  refine x_iload C 8 dL_refuses_47 rfl ?_
  refine x_iconst C (v := 2) dL_refuses_49 (by decide) ?_
  refine x_icmp_ne C (t := 58) dL_refuses_50 (by decide) (fun c9 => absurd c9 (by decide)) (fun _ => ?_)
  refine x_iload C 7 dL_refuses_53 rfl ?_
  refine x_goto C (t := 63) dL_refuses_55 (by decide) ?_
  refine x_istore C (lv' := [(0, .ref (ad 32)), (1, .int (nI F)), (2, .int (nI g)), (3, .int (nI n)), (4, .int e0), (5, .int e1), (6, .int al), (7, .int 2147483647), (8, .int 2), (9, .int 2147483647)]) dL_refuses_63 (by decide) rfl ?_
  refine x_iload C 8 dL_refuses_65 rfl ?_
  refine x_if_ne C (t := 75) dL_refuses_67 (by decide) (fun _ => ?_) (fun c9 => absurd c9 (by decide))
  refine x_iload C 9 dL_refuses_75 rfl ?_
  refine x_istore C (lv' := [(0, .ref (ad 32)), (1, .int (nI F)), (2, .int (nI g)), (3, .int (nI n)), (4, .int e0), (5, .int e1), (6, .int al), (7, .int 2147483647), (8, .int 2), (9, .int 2147483647), (10, .int 2147483647)]) dL_refuses_77 (by decide) rfl ?_
  refine x_iload C 8 dL_refuses_79 rfl ?_
  refine x_iconst C (v := 1) dL_refuses_81 (by decide) ?_
  refine x_icmp_ne C (t := 89) dL_refuses_82 (by decide) (fun _ => ?_) (fun c9 => absurd c9 (by decide))
  refine x_iload C 9 dL_refuses_89 rfl ?_
  refine x_istore C (lv' := [(0, .ref (ad 32)), (1, .int (nI F)), (2, .int (nI g)), (3, .int (nI n)), (4, .int e0), (5, .int e1), (6, .int al), (7, .int 2147483647), (8, .int 2), (9, .int 2147483647), (10, .int 2147483647), (11, .int 2147483647)]) dL_refuses_91 (by decide) rfl ?_
  refine x_iload C 8 dL_refuses_93 rfl ?_
  refine x_iconst C (v := 1) dL_refuses_95 (by decide) ?_
  refine x_icmp_ne C (t := 103) dL_refuses_96 (by decide) (fun _ => ?_) (fun c9 => absurd c9 (by decide))
  refine x_iload C 9 dL_refuses_103 rfl ?_
  refine x_istore C (lv' := [(0, .ref (ad 32)), (1, .int (nI F)), (2, .int (nI g)), (3, .int (nI n)), (4, .int e0), (5, .int e1), (6, .int al), (7, .int 2147483647), (8, .int 2), (9, .int 2147483647), (10, .int 2147483647), (11, .int 2147483647), (12, .int 2147483647)]) dL_refuses_105 (by decide) rfl ?_
  refine x_iload C 8 dL_refuses_107 rfl ?_
  refine x_iconst C (v := 1) dL_refuses_109 (by decide) ?_
  refine x_icmp_ne C (t := 117) dL_refuses_110 (by decide) (fun _ => ?_) (fun c9 => absurd c9 (by decide))
  refine x_iload C 9 dL_refuses_117 rfl ?_
  refine x_istore C (lv' := [(0, .ref (ad 32)), (1, .int (nI F)), (2, .int (nI g)), (3, .int (nI n)), (4, .int e0), (5, .int e1), (6, .int al), (7, .int 2147483647), (8, .int 2), (9, .int 2147483647), (10, .int 2147483647), (11, .int 2147483647), (12, .int 2147483647), (13, .int 2147483647)]) dL_refuses_119 (by decide) rfl ?_
  refine x_iload C 8 dL_refuses_121 rfl ?_
  refine x_iconst C (v := 1) dL_refuses_123 (by decide) ?_
  refine x_icmp_ne C (t := 131) dL_refuses_124 (by decide) (fun _ => ?_) (fun c9 => absurd c9 (by decide))
  refine x_iload C 9 dL_refuses_131 rfl ?_
  refine x_istore C (lv' := [(0, .ref (ad 32)), (1, .int (nI F)), (2, .int (nI g)), (3, .int (nI n)), (4, .int e0), (5, .int e1), (6, .int al), (7, .int 2147483647), (8, .int 2), (9, .int 2147483647), (10, .int 2147483647), (11, .int 2147483647), (12, .int 2147483647), (13, .int 2147483647), (14, .int 2147483647)]) dL_refuses_133 (by decide) rfl ?_
  refine x_iload C 8 dL_refuses_135 rfl ?_
  refine x_iconst C (v := 1) dL_refuses_137 (by decide) ?_
  refine x_icmp_ne C (t := 146) dL_refuses_138 (by decide) (fun _ => ?_) (fun c9 => absurd c9 (by decide))
  refine x_iload C 9 dL_refuses_146 rfl ?_
  refine x_istore C (lv' := [(0, .ref (ad 32)), (1, .int (nI F)), (2, .int (nI g)), (3, .int (nI n)), (4, .int e0), (5, .int e1), (6, .int al), (7, .int 2147483647), (8, .int 2), (9, .int 2147483647), (10, .int 2147483647), (11, .int 2147483647), (12, .int 2147483647), (13, .int 2147483647), (14, .int 2147483647), (15, .int 2147483647)]) dL_refuses_148 (by decide) rfl ?_
  refine x_iload C 8 dL_refuses_150 rfl ?_
  refine x_iconst C (v := 1) dL_refuses_152 (by decide) ?_
  refine x_icmp_ne C (t := 161) dL_refuses_153 (by decide) (fun _ => ?_) (fun c9 => absurd c9 (by decide))
  refine x_iload C 9 dL_refuses_161 rfl ?_
  refine x_istore C (lv' := [(0, .ref (ad 32)), (1, .int (nI F)), (2, .int (nI g)), (3, .int (nI n)), (4, .int e0), (5, .int e1), (6, .int al), (7, .int 2147483647), (8, .int 2), (9, .int 2147483647), (10, .int 2147483647), (11, .int 2147483647), (12, .int 2147483647), (13, .int 2147483647), (14, .int 2147483647), (15, .int 2147483647), (16, .int 2147483647)]) dL_refuses_163 (by decide) rfl ?_
  refine x_iload C 8 dL_refuses_165 rfl ?_
  refine x_iconst C (v := 1) dL_refuses_167 (by decide) ?_
  refine x_icmp_ne C (t := 176) dL_refuses_168 (by decide) (fun _ => ?_) (fun c9 => absurd c9 (by decide))
  refine x_iload C 9 dL_refuses_176 rfl ?_
  refine x_istore C (lv' := [(0, .ref (ad 32)), (1, .int (nI F)), (2, .int (nI g)), (3, .int (nI n)), (4, .int e0), (5, .int e1), (6, .int al), (7, .int 2147483647), (8, .int 2), (9, .int 2147483647), (10, .int 2147483647), (11, .int 2147483647), (12, .int 2147483647), (13, .int 2147483647), (14, .int 2147483647), (15, .int 2147483647), (16, .int 2147483647), (17, .int 2147483647)]) dL_refuses_178 (by decide) rfl ?_
  refine x_iload C 8 dL_refuses_180 rfl ?_
  refine x_iconst C (v := 1) dL_refuses_182 (by decide) ?_
  refine x_icmp_ne C (t := 190) dL_refuses_183 (by decide) (fun _ => ?_) (fun c9 => absurd c9 (by decide))
  refine x_iload C 9 dL_refuses_190 rfl ?_
  refine x_istore C (lv' := [(0, .ref (ad 32)), (1, .int (nI F)), (2, .int (nI g)), (3, .int (nI n)), (4, .int e0), (5, .int e1), (6, .int al), (7, .int 2147483647), (8, .int 2), (9, .int 2147483647), (10, .int 2147483647), (11, .int 2147483647), (12, .int 2147483647), (13, .int 2147483647), (14, .int 2147483647), (15, .int 2147483647), (16, .int 2147483647), (17, .int 2147483647), (18, .int 2147483647)]) dL_refuses_192 (by decide) rfl ?_
  exact x_widen (by omega) (by omega) K
set_option maxHeartbeats 4000000 in
set_option maxRecDepth 100000 in
theorem rs2_b {p : Program} {l : Launch} {e : Env} {s : State} {m : MethodId} {args : Array Value} {below : List Frame} {meth : Method} {c : Code} {D : va_G} {cI cZ cJ : ClassId} {ad : Nat → Nat} {S : St} {rest w0 : va_W} {Q : State → Prop} {n F g kk jj : Nat} {e0 e1 al : Int32} (hfl : l.stackTraces = false) (C : XC p rm_L_refuses s m args meth c cL_refuses 21 (some .boolean) RL wsL_refuses D (t3 cI cZ cJ)) (hX : XS (va_A w0 s.heap.size) s s.heap) (hN : NC s) (r : RFS S n F g) (hk : kk + 19 ≤ 225) (hj : jj + 114 ≤ 1350) (K : XW p l e rm_L_refuses s m args below meth c D w0 21 Q (wE cI cZ ad S (eo ad (ad 0) (ad 7) rest)) (kk + 19) (jj + 114) 498 [(0, .ref (ad 32)), (1, .int (nI F)), (2, .int (nI g)), (3, .int (nI n)), (4, .int e0), (5, .int e1), (6, .int al), (7, .int 2147483647), (8, .int 2), (9, .int 2147483647), (10, .int 2147483647), (11, .int 2147483647), (12, .int 2147483647), (13, .int 2147483647), (14, .int 2147483647), (15, .int 2147483647), (16, .int 2147483647), (17, .int 2147483647), (18, .int 2147483647), (19, .int 1)] []) : XW p l e rm_L_refuses s m args below meth c D w0 21 Q (wE cI cZ ad S (eo ad (ad 0) (ad 7) rest)) kk jj 194 [(0, .ref (ad 32)), (1, .int (nI F)), (2, .int (nI g)), (3, .int (nI n)), (4, .int e0), (5, .int e1), (6, .int al), (7, .int 2147483647), (8, .int 2), (9, .int 2147483647), (10, .int 2147483647), (11, .int 2147483647), (12, .int 2147483647), (13, .int 2147483647), (14, .int 2147483647), (15, .int 2147483647), (16, .int 2147483647), (17, .int 2147483647), (18, .int 2147483647)] [] := by
  refine x_aload_n C 0 dL_refuses_194 rfl ?_
  refine x_iload C 13 dL_refuses_195 rfl ?_
  refine x_iconst C (v := (-1)) dL_refuses_197 (by decide) ?_
  refine x_iconst C (v := 0) dL_refuses_198 (by decide) ?_
  have h115 : X5_setClass S 2147483647 (-1) 0 = some (1, S) := q_class_i (by decide)
  refine x_ci (mc := 1) (ms := 6) (x_runSW C hX hN (As := [.ref (ad 32), .int 2147483647, .int (-1), .int 0]) (rest := []) (c_L_kind_th0 hfl h115) (cw_L_refuses_L_kind_th C) rfl (Nat.le_of_ble_eq_true rfl) dL_refuses_199 ⟨by show _ ≤ 225; omega, by show _ ≤ 1350; omega⟩) ?_
  refine x_bipush C (v := (-71)) dL_refuses_202 (by decide) ?_
  refine x_icmp_ne C (t := 495) dL_refuses_204 (by decide) (fun c9 => absurd c9 (by decide)) (fun _ => ?_)
  refine x_aload_n C 0 dL_refuses_207 rfl ?_
  refine x_iconst C (v := 0) dL_refuses_208 (by decide) ?_
  refine x_iload C 16 dL_refuses_209 rfl ?_
  refine x_iconst C (v := 0) dL_refuses_211 (by decide) ?_
  have h116 : X5_setClass S 0 2147483647 0 = some (2, S) := q_class_n (by decide)
  refine x_ci (mc := 1) (ms := 6) (x_runSW C hX hN (As := [.ref (ad 32), .int 0, .int 2147483647, .int 0]) (rest := []) (c_L_kind_th1 hfl h116) (cw_L_refuses_L_kind_th C) rfl (Nat.le_of_ble_eq_true rfl) dL_refuses_212 ⟨by show _ ≤ 225; omega, by show _ ≤ 1350; omega⟩) ?_
  refine x_bipush C (v := (-72)) dL_refuses_215 (by decide) ?_
  refine x_icmp_ne C (t := 495) dL_refuses_217 (by decide) (fun c9 => absurd c9 (by decide)) (fun _ => ?_)
  refine x_aload_n C 0 dL_refuses_220 rfl ?_
  refine x_iconst C (v := 0) dL_refuses_221 (by decide) ?_
  refine x_iconst C (v := 0) dL_refuses_222 (by decide) ?_
  refine x_iload C 16 dL_refuses_223 rfl ?_
  have h117 : X5_setClass S 0 0 2147483647 = some (2, S) := q_class_a (by decide)
  refine x_ci (mc := 1) (ms := 6) (x_runSW C hX hN (As := [.ref (ad 32), .int 0, .int 0, .int 2147483647]) (rest := []) (c_L_kind_th1 hfl h117) (cw_L_refuses_L_kind_th C) rfl (Nat.le_of_ble_eq_true rfl) dL_refuses_225 ⟨by show _ ≤ 225; omega, by show _ ≤ 1350; omega⟩) ?_
  refine x_bipush C (v := (-72)) dL_refuses_228 (by decide) ?_
  refine x_icmp_ne C (t := 495) dL_refuses_230 (by decide) (fun c9 => absurd c9 (by decide)) (fun _ => ?_)
  refine x_aload_n C 0 dL_refuses_233 rfl ?_
  refine x_iconst C (v := 0) dL_refuses_234 (by decide) ?_
  refine x_iload C 11 dL_refuses_235 rfl ?_
  refine x_iconst C (v := 0) dL_refuses_237 (by decide) ?_
  refine x_iconst C (v := (-1)) dL_refuses_238 (by decide) ?_
  refine x_iconst C (v := 0) dL_refuses_239 (by decide) ?_
  have h118 : X5_add S 2147483647 0 (-1) 0 = some (1, 0, S) := q_add_m (by decide)
  refine x_ci (mc := 1) (ms := 6) (x_runSW C hX hN (As := [.ref (ad 32), .int 0, .int 2147483647, .int 0, .int (-1), .int 0]) (rest := []) (c_L_act_add_th0 hfl h118) (cw_L_refuses_L_act_th C) rfl (Nat.le_of_ble_eq_true rfl) dL_refuses_240 ⟨by show _ ≤ 225; omega, by show _ ≤ 1350; omega⟩) ?_
  refine x_bipush C (v := (-71)) dL_refuses_243 (by decide) ?_
  refine x_icmp_ne C (t := 495) dL_refuses_245 (by decide) (fun c9 => absurd c9 (by decide)) (fun _ => ?_)
  refine x_aload_n C 0 dL_refuses_248 rfl ?_
  refine x_iconst C (v := 0) dL_refuses_249 (by decide) ?_
  refine x_iconst C (v := 0) dL_refuses_250 (by decide) ?_
  refine x_iload C 12 dL_refuses_251 rfl ?_
  refine x_iconst C (v := (-1)) dL_refuses_253 (by decide) ?_
  refine x_iconst C (v := 0) dL_refuses_254 (by decide) ?_
  have h119 : X5_add S 0 2147483647 (-1) 0 = some (1, 0, S) := q_add_e (r.2.1 _ (by decide))
  refine x_ci (mc := 1) (ms := 6) (x_runSW C hX hN (As := [.ref (ad 32), .int 0, .int 0, .int 2147483647, .int (-1), .int 0]) (rest := []) (c_L_act_add_th0 hfl h119) (cw_L_refuses_L_act_th C) rfl (Nat.le_of_ble_eq_true rfl) dL_refuses_255 ⟨by show _ ≤ 225; omega, by show _ ≤ 1350; omega⟩) ?_
  refine x_bipush C (v := (-71)) dL_refuses_258 (by decide) ?_
  refine x_icmp_ne C (t := 495) dL_refuses_260 (by decide) (fun c9 => absurd c9 (by decide)) (fun _ => ?_)
  refine x_aload_n C 0 dL_refuses_263 rfl ?_
  refine x_iconst C (v := 0) dL_refuses_264 (by decide) ?_
  refine x_iconst C (v := 0) dL_refuses_265 (by decide) ?_
  refine x_iconst C (v := 0) dL_refuses_266 (by decide) ?_
  refine x_iconst C (v := (-1)) dL_refuses_267 (by decide) ?_
  refine x_iload C 13 dL_refuses_268 rfl ?_
  have h120 : X5_add S 0 0 (-1) 2147483647 = some (1, 0, S) := q_add_c r.1 (by decide)
  refine x_ci (mc := 1) (ms := 6) (x_runSW C hX hN (As := [.ref (ad 32), .int 0, .int 0, .int 0, .int (-1), .int 2147483647]) (rest := []) (c_L_act_add_th0 hfl h120) (cw_L_refuses_L_act_th C) rfl (Nat.le_of_ble_eq_true rfl) dL_refuses_270 ⟨by show _ ≤ 225; omega, by show _ ≤ 1350; omega⟩) ?_
  refine x_bipush C (v := (-71)) dL_refuses_273 (by decide) ?_
  refine x_icmp_ne C (t := 495) dL_refuses_275 (by decide) (fun c9 => absurd c9 (by decide)) (fun _ => ?_)
  refine x_aload_n C 0 dL_refuses_278 rfl ?_
  refine x_iconst C (v := 0) dL_refuses_279 (by decide) ?_
  refine x_iconst C (v := 0) dL_refuses_280 (by decide) ?_
  refine x_iconst C (v := 0) dL_refuses_281 (by decide) ?_
  refine x_iload C 15 dL_refuses_282 rfl ?_
  refine x_iconst C (v := 0) dL_refuses_284 (by decide) ?_
  have h121 : X5_add S 0 0 2147483647 0 = some (2, 0, S) := q_add_l r.1 (by decide)
  refine x_ci (mc := 1) (ms := 6) (x_runSW C hX hN (As := [.ref (ad 32), .int 0, .int 0, .int 0, .int 2147483647, .int 0]) (rest := []) (c_L_act_add_th1 hfl h121) (cw_L_refuses_L_act_th C) rfl (Nat.le_of_ble_eq_true rfl) dL_refuses_285 ⟨by show _ ≤ 225; omega, by show _ ≤ 1350; omega⟩) ?_
  refine x_bipush C (v := (-72)) dL_refuses_288 (by decide) ?_
  refine x_icmp_ne C (t := 495) dL_refuses_290 (by decide) (fun c9 => absurd c9 (by decide)) (fun _ => ?_)
  refine x_aload_n C 0 dL_refuses_293 rfl ?_
  refine x_iconst C (v := 1) dL_refuses_294 (by decide) ?_
  refine x_iload C 11 dL_refuses_295 rfl ?_
  refine x_iconst C (v := 0) dL_refuses_297 (by decide) ?_
  refine x_iconst C (v := 0) dL_refuses_298 (by decide) ?_
  refine x_bipush C (v := 99) dL_refuses_299 (by decide) ?_
  have h122 : X5_set S 2147483647 0 0 99 = some (1, 0, S) := q_set_m (by decide)
  refine x_ci (mc := 1) (ms := 6) (x_runSW C hX hN (As := [.ref (ad 32), .int 1, .int 2147483647, .int 0, .int 0, .int 99]) (rest := []) (c_L_act_set_th0 hfl h122) (cw_L_refuses_L_act_th C) rfl (Nat.le_of_ble_eq_true rfl) dL_refuses_301 ⟨by show _ ≤ 225; omega, by show _ ≤ 1350; omega⟩) ?_
  refine x_bipush C (v := (-71)) dL_refuses_304 (by decide) ?_
  refine x_icmp_ne C (t := 495) dL_refuses_306 (by decide) (fun c9 => absurd c9 (by decide)) (fun _ => ?_)
  refine x_aload_n C 0 dL_refuses_309 rfl ?_
  refine x_iconst C (v := 1) dL_refuses_310 (by decide) ?_
  refine x_iconst C (v := 0) dL_refuses_311 (by decide) ?_
  refine x_iload C 12 dL_refuses_312 rfl ?_
  refine x_iconst C (v := 0) dL_refuses_314 (by decide) ?_
  refine x_bipush C (v := 99) dL_refuses_315 (by decide) ?_
  have h123 : X5_set S 0 2147483647 0 99 = some (1, 0, S) := q_set_e (r.2.1 _ (by decide))
  refine x_ci (mc := 1) (ms := 6) (x_runSW C hX hN (As := [.ref (ad 32), .int 1, .int 0, .int 2147483647, .int 0, .int 99]) (rest := []) (c_L_act_set_th0 hfl h123) (cw_L_refuses_L_act_th C) rfl (Nat.le_of_ble_eq_true rfl) dL_refuses_317 ⟨by show _ ≤ 225; omega, by show _ ≤ 1350; omega⟩) ?_
  refine x_bipush C (v := (-71)) dL_refuses_320 (by decide) ?_
  refine x_icmp_ne C (t := 495) dL_refuses_322 (by decide) (fun c9 => absurd c9 (by decide)) (fun _ => ?_)
  refine x_aload_n C 0 dL_refuses_325 rfl ?_
  refine x_iconst C (v := 1) dL_refuses_326 (by decide) ?_
  refine x_iconst C (v := 0) dL_refuses_327 (by decide) ?_
  refine x_iconst C (v := 0) dL_refuses_328 (by decide) ?_
  refine x_iload C 14 dL_refuses_329 rfl ?_
  refine x_bipush C (v := 99) dL_refuses_331 (by decide) ?_
  have h124 : X5_set S 0 0 2147483647 99 = some (1, 0, S) := q_set_a r.1 (by decide)
  refine x_ci (mc := 1) (ms := 6) (x_runSW C hX hN (As := [.ref (ad 32), .int 1, .int 0, .int 0, .int 2147483647, .int 99]) (rest := []) (c_L_act_set_th0 hfl h124) (cw_L_refuses_L_act_th C) rfl (Nat.le_of_ble_eq_true rfl) dL_refuses_333 ⟨by show _ ≤ 225; omega, by show _ ≤ 1350; omega⟩) ?_
  refine x_bipush C (v := (-71)) dL_refuses_336 (by decide) ?_
  refine x_icmp_ne C (t := 495) dL_refuses_338 (by decide) (fun c9 => absurd c9 (by decide)) (fun _ => ?_)
  refine x_aload_n C 0 dL_refuses_341 rfl ?_
  refine x_iconst C (v := 1) dL_refuses_342 (by decide) ?_
  refine x_iconst C (v := 0) dL_refuses_343 (by decide) ?_
  refine x_iconst C (v := 0) dL_refuses_344 (by decide) ?_
  refine x_iconst C (v := 0) dL_refuses_345 (by decide) ?_
  refine x_iload C 8 dL_refuses_346 rfl ?_
  refine x_iconst C (v := 1) dL_refuses_348 (by decide) ?_
  refine x_icmp_ne C (t := 357) dL_refuses_349 (by decide) (fun _ => ?_) (fun c9 => absurd c9 (by decide))
  refine x_iload C 10 dL_refuses_357 rfl ?_
  have h125 : X5_set S 0 0 0 2147483647 = some (2, 0, S) := q_set_v r.1 (by decide)
  refine x_ci (mc := 1) (ms := 6) (x_runSW C hX hN (As := [.ref (ad 32), .int 1, .int 0, .int 0, .int 0, .int 2147483647]) (rest := []) (c_L_act_set_th1 hfl h125) (cw_L_refuses_L_act_th C) rfl (Nat.le_of_ble_eq_true rfl) dL_refuses_359 ⟨by show _ ≤ 225; omega, by show _ ≤ 1350; omega⟩) ?_
  refine x_bipush C (v := (-72)) dL_refuses_362 (by decide) ?_
  refine x_icmp_ne C (t := 495) dL_refuses_364 (by decide) (fun c9 => absurd c9 (by decide)) (fun _ => ?_)
  refine x_aload_n C 0 dL_refuses_367 rfl ?_
  refine x_iconst C (v := 2) dL_refuses_368 (by decide) ?_
  refine x_iload C 11 dL_refuses_369 rfl ?_
  refine x_iconst C (v := 0) dL_refuses_371 (by decide) ?_
  refine x_iconst C (v := 0) dL_refuses_372 (by decide) ?_
  refine x_iconst C (v := (-1)) dL_refuses_373 (by decide) ?_
  have h126 : X5_move S 2147483647 0 0 (-1) = some (1, 0, S) := q_move_m (by decide)
  refine x_ci (mc := 1) (ms := 6) (x_runSW C hX hN (As := [.ref (ad 32), .int 2, .int 2147483647, .int 0, .int 0, .int (-1)]) (rest := []) (c_L_act_move_th0 hfl h126) (cw_L_refuses_L_act_th C) rfl (Nat.le_of_ble_eq_true rfl) dL_refuses_374 ⟨by show _ ≤ 225; omega, by show _ ≤ 1350; omega⟩) ?_
  refine x_bipush C (v := (-71)) dL_refuses_377 (by decide) ?_
  refine x_icmp_ne C (t := 495) dL_refuses_379 (by decide) (fun c9 => absurd c9 (by decide)) (fun _ => ?_)
  refine x_aload_n C 0 dL_refuses_382 rfl ?_
  refine x_iconst C (v := 2) dL_refuses_383 (by decide) ?_
  refine x_iconst C (v := 0) dL_refuses_384 (by decide) ?_
  refine x_iload C 12 dL_refuses_385 rfl ?_
  refine x_iconst C (v := 0) dL_refuses_387 (by decide) ?_
  refine x_iconst C (v := (-1)) dL_refuses_388 (by decide) ?_
  have h127 : X5_move S 0 2147483647 0 (-1) = some (1, 0, S) := q_move_e (r.2.1 _ (by decide))
  refine x_ci (mc := 1) (ms := 6) (x_runSW C hX hN (As := [.ref (ad 32), .int 2, .int 0, .int 2147483647, .int 0, .int (-1)]) (rest := []) (c_L_act_move_th0 hfl h127) (cw_L_refuses_L_act_th C) rfl (Nat.le_of_ble_eq_true rfl) dL_refuses_389 ⟨by show _ ≤ 225; omega, by show _ ≤ 1350; omega⟩) ?_
  refine x_bipush C (v := (-71)) dL_refuses_392 (by decide) ?_
  refine x_icmp_ne C (t := 495) dL_refuses_394 (by decide) (fun c9 => absurd c9 (by decide)) (fun _ => ?_)
  refine x_aload_n C 0 dL_refuses_397 rfl ?_
  refine x_iconst C (v := 2) dL_refuses_398 (by decide) ?_
  refine x_iconst C (v := 0) dL_refuses_399 (by decide) ?_
  refine x_iconst C (v := 0) dL_refuses_400 (by decide) ?_
  refine x_iload C 12 dL_refuses_401 rfl ?_
  refine x_iconst C (v := (-1)) dL_refuses_403 (by decide) ?_
  have h128 : X5_move S 0 0 2147483647 (-1) = some (1, 0, S) := q_move_p r.1 (r.2.1 _ (by decide))
  refine x_ci (mc := 1) (ms := 6) (x_runSW C hX hN (As := [.ref (ad 32), .int 2, .int 0, .int 0, .int 2147483647, .int (-1)]) (rest := []) (c_L_act_move_th0 hfl h128) (cw_L_refuses_L_act_th C) rfl (Nat.le_of_ble_eq_true rfl) dL_refuses_404 ⟨by show _ ≤ 225; omega, by show _ ≤ 1350; omega⟩) ?_
  refine x_bipush C (v := (-71)) dL_refuses_407 (by decide) ?_
  refine x_icmp_ne C (t := 495) dL_refuses_409 (by decide) (fun c9 => absurd c9 (by decide)) (fun _ => ?_)
  refine x_aload_n C 0 dL_refuses_412 rfl ?_
  refine x_iconst C (v := 2) dL_refuses_413 (by decide) ?_
  refine x_iconst C (v := 0) dL_refuses_414 (by decide) ?_
  refine x_iconst C (v := 0) dL_refuses_415 (by decide) ?_
  refine x_iconst C (v := 0) dL_refuses_416 (by decide) ?_
  refine x_iload C 15 dL_refuses_417 rfl ?_
  have h129 : X5_move S 0 0 0 2147483647 = some (2, 0, S) := q_move_l r.1 (by decide)
  refine x_ci (mc := 1) (ms := 6) (x_runSW C hX hN (As := [.ref (ad 32), .int 2, .int 0, .int 0, .int 0, .int 2147483647]) (rest := []) (c_L_act_move_th1 hfl h129) (cw_L_refuses_L_act_th C) rfl (Nat.le_of_ble_eq_true rfl) dL_refuses_419 ⟨by show _ ≤ 225; omega, by show _ ≤ 1350; omega⟩) ?_
  refine x_bipush C (v := (-72)) dL_refuses_422 (by decide) ?_
  refine x_icmp_ne C (t := 495) dL_refuses_424 (by decide) (fun c9 => absurd c9 (by decide)) (fun _ => ?_)
  refine x_aload_n C 0 dL_refuses_427 rfl ?_
  refine x_iconst C (v := 2) dL_refuses_428 (by decide) ?_
  refine x_iconst C (v := 0) dL_refuses_429 (by decide) ?_
  refine x_iload C 8 dL_refuses_430 rfl ?_
  refine x_iconst C (v := 2) dL_refuses_432 (by decide) ?_
  refine x_irem C dL_refuses_433 (by decide) ?_
  refine x_topi (v' := 0) (by decide) ?_
  refine x_iconst C (v := 0) dL_refuses_434 (by decide) ?_
  refine x_iconst C (v := 5) dL_refuses_435 (by decide) ?_
  have h130 : X5_move S 0 0 0 5 = some (3, 0, S) := q_move_f r.1 (p := 0) (by decide)
  refine x_ci (mc := 1) (ms := 6) (x_runSW C hX hN (As := [.ref (ad 32), .int 2, .int 0, .int 0, .int 0, .int 5]) (rest := []) (c_L_act_move_th2 hfl h130) (cw_L_refuses_L_act_th C) rfl (Nat.le_of_ble_eq_true rfl) dL_refuses_436 ⟨by show _ ≤ 225; omega, by show _ ≤ 1350; omega⟩) ?_
  refine x_bipush C (v := (-73)) dL_refuses_439 (by decide) ?_
  refine x_icmp_ne C (t := 495) dL_refuses_441 (by decide) (fun c9 => absurd c9 (by decide)) (fun _ => ?_)
  refine x_aload_n C 0 dL_refuses_444 rfl ?_
  refine x_iconst C (v := 3) dL_refuses_445 (by decide) ?_
  refine x_iload C 11 dL_refuses_446 rfl ?_
  refine x_iconst C (v := 0) dL_refuses_448 (by decide) ?_
  refine x_iconst C (v := 0) dL_refuses_449 (by decide) ?_
  refine x_iconst C (v := 0) dL_refuses_450 (by decide) ?_
  have h131 : X5_delete S 2147483647 0 = some (1, 0, S) := q_delete_m (by decide)
  refine x_ci (mc := 1) (ms := 6) (x_runSW C hX hN (As := [.ref (ad 32), .int 3, .int 2147483647, .int 0, .int 0, .int 0]) (rest := []) (c_L_act_delete_th0 hfl h131) (cw_L_refuses_L_act_th C) rfl (Nat.le_of_ble_eq_true rfl) dL_refuses_451 ⟨by show _ ≤ 225; omega, by show _ ≤ 1350; omega⟩) ?_
  refine x_bipush C (v := (-71)) dL_refuses_454 (by decide) ?_
  refine x_icmp_ne C (t := 495) dL_refuses_456 (by decide) (fun c9 => absurd c9 (by decide)) (fun _ => ?_)
  refine x_aload_n C 0 dL_refuses_459 rfl ?_
  refine x_iconst C (v := 3) dL_refuses_460 (by decide) ?_
  refine x_iconst C (v := 0) dL_refuses_461 (by decide) ?_
  refine x_iload C 12 dL_refuses_462 rfl ?_
  refine x_iconst C (v := 0) dL_refuses_464 (by decide) ?_
  refine x_iconst C (v := 0) dL_refuses_465 (by decide) ?_
  have h132 : X5_delete S 0 2147483647 = some (1, 0, S) := q_delete_e (r.2.1 _ (by decide))
  refine x_ci (mc := 1) (ms := 6) (x_runSW C hX hN (As := [.ref (ad 32), .int 3, .int 0, .int 2147483647, .int 0, .int 0]) (rest := []) (c_L_act_delete_th0 hfl h132) (cw_L_refuses_L_act_th C) rfl (Nat.le_of_ble_eq_true rfl) dL_refuses_466 ⟨by show _ ≤ 225; omega, by show _ ≤ 1350; omega⟩) ?_
  refine x_bipush C (v := (-71)) dL_refuses_469 (by decide) ?_
  refine x_icmp_ne C (t := 495) dL_refuses_471 (by decide) (fun c9 => absurd c9 (by decide)) (fun _ => ?_)
  refine x_aload_n C 0 dL_refuses_474 rfl ?_
  refine x_iconst C (v := 3) dL_refuses_475 (by decide) ?_
  refine x_iconst C (v := 0) dL_refuses_476 (by decide) ?_
  refine x_iload C 8 dL_refuses_477 rfl ?_
  refine x_iconst C (v := 2) dL_refuses_479 (by decide) ?_
  refine x_irem C dL_refuses_480 (by decide) ?_
  refine x_topi (v' := 0) (by decide) ?_
  refine x_iconst C (v := 0) dL_refuses_481 (by decide) ?_
  refine x_iconst C (v := 0) dL_refuses_482 (by decide) ?_
  have h133 : X5_delete S 0 0 = some (3, 0, S) := q_delete_f r.1 (p := 0) (by decide)
  refine x_ci (mc := 1) (ms := 6) (x_runSW C hX hN (As := [.ref (ad 32), .int 3, .int 0, .int 0, .int 0, .int 0]) (rest := []) (c_L_act_delete_th2 hfl h133) (cw_L_refuses_L_act_th C) rfl (Nat.le_of_ble_eq_true rfl) dL_refuses_483 ⟨by show _ ≤ 225; omega, by show _ ≤ 1350; omega⟩) ?_
  refine x_bipush C (v := (-73)) dL_refuses_486 (by decide) ?_
  refine x_icmp_ne C (t := 495) dL_refuses_488 (by decide) (fun c9 => absurd c9 (by decide)) (fun _ => ?_)
  refine x_iconst C (v := 1) dL_refuses_491 (by decide) ?_
  refine x_goto C (t := 496) dL_refuses_492 (by decide) ?_
  refine x_istore C (lv' := [(0, .ref (ad 32)), (1, .int (nI F)), (2, .int (nI g)), (3, .int (nI n)), (4, .int e0), (5, .int e1), (6, .int al), (7, .int 2147483647), (8, .int 2), (9, .int 2147483647), (10, .int 2147483647), (11, .int 2147483647), (12, .int 2147483647), (13, .int 2147483647), (14, .int 2147483647), (15, .int 2147483647), (16, .int 2147483647), (17, .int 2147483647), (18, .int 2147483647), (19, .int 1)]) dL_refuses_496 (by decide) rfl ?_
  exact x_widen (by omega) (by omega) K
set_option maxHeartbeats 4000000 in
set_option maxRecDepth 100000 in
theorem rs2_c {p : Program} {l : Launch} {e : Env} {s : State} {m : MethodId} {args : Array Value} {below : List Frame} {meth : Method} {c : Code} {D : va_G} {cI cZ cJ : ClassId} {ad : Nat → Nat} {S : St} {rest w0 : va_W} {Q : State → Prop} {n F g kk jj : Nat} {e0 e1 al : Int32} (hfl : l.stackTraces = false) (C : XC p rm_L_refuses s m args meth c cL_refuses 21 (some .boolean) RL wsL_refuses D (t3 cI cZ cJ)) (hX : XS (va_A w0 s.heap.size) s s.heap) (hN : NC s) (r : RFS S n F g) (hk : kk + 15 ≤ 225) (hj : jj + 90 ≤ 1350) (K : XW p l e rm_L_refuses s m args below meth c D w0 21 Q (wE cI cZ ad S (eo ad (ad 0) (ad 7) rest)) (kk + 15) (jj + 90) 796 [(0, .ref (ad 32)), (1, .int (nI F)), (2, .int (nI g)), (3, .int (nI n)), (4, .int e0), (5, .int e1), (6, .int al), (7, .int 2147483647), (8, .int 2), (9, .int 2147483647), (10, .int 2147483647), (11, .int 2147483647), (12, .int 2147483647), (13, .int 2147483647), (14, .int 2147483647), (15, .int 2147483647), (16, .int 2147483647), (17, .int 2147483647), (18, .int 2147483647), (19, .int 1)] []) : XW p l e rm_L_refuses s m args below meth c D w0 21 Q (wE cI cZ ad S (eo ad (ad 0) (ad 7) rest)) kk jj 498 [(0, .ref (ad 32)), (1, .int (nI F)), (2, .int (nI g)), (3, .int (nI n)), (4, .int e0), (5, .int e1), (6, .int al), (7, .int 2147483647), (8, .int 2), (9, .int 2147483647), (10, .int 2147483647), (11, .int 2147483647), (12, .int 2147483647), (13, .int 2147483647), (14, .int 2147483647), (15, .int 2147483647), (16, .int 2147483647), (17, .int 2147483647), (18, .int 2147483647), (19, .int 1)] [] := by
  refine x_iload C 19 dL_refuses_498 rfl ?_
  refine x_if_eq C (t := 793) dL_refuses_500 (by decide) (fun c9 => absurd c9 (by decide)) (fun _ => ?_)
  refine x_aload_n C 0 dL_refuses_503 rfl ?_
  refine x_iconst C (v := 4) dL_refuses_504 (by decide) ?_
  refine x_iload C 8 dL_refuses_505 rfl ?_
  refine x_iconst C (v := 1) dL_refuses_507 (by decide) ?_
  refine x_icmp_ne C (t := 515) dL_refuses_508 (by decide) (fun _ => ?_) (fun c9 => absurd c9 (by decide))
  refine x_iload C 9 dL_refuses_515 rfl ?_
  refine x_iconst C (v := 0) dL_refuses_517 (by decide) ?_
  refine x_iconst C (v := 0) dL_refuses_518 (by decide) ?_
  refine x_iconst C (v := 0) dL_refuses_519 (by decide) ?_
  have h134 : X5_carry S 2147483647 0 = some (1, 0, S) := q_carry_c r.1 (q_litb r.1.2.1 (by decide))
  refine x_ci (mc := 1) (ms := 6) (x_runSW C hX hN (As := [.ref (ad 32), .int 4, .int 2147483647, .int 0, .int 0, .int 0]) (rest := []) (c_L_act_carry_th0 hfl h134) (cw_L_refuses_L_act_th C) rfl (Nat.le_of_ble_eq_true rfl) dL_refuses_520 ⟨by show _ ≤ 225; omega, by show _ ≤ 1350; omega⟩) ?_
  refine x_bipush C (v := (-71)) dL_refuses_523 (by decide) ?_
  refine x_icmp_ne C (t := 793) dL_refuses_525 (by decide) (fun c9 => absurd c9 (by decide)) (fun _ => ?_)
  refine x_aload_n C 0 dL_refuses_528 rfl ?_
  refine x_iconst C (v := 4) dL_refuses_529 (by decide) ?_
  refine x_iconst C (v := 0) dL_refuses_530 (by decide) ?_
  refine x_iload C 11 dL_refuses_531 rfl ?_
  refine x_iconst C (v := 0) dL_refuses_533 (by decide) ?_
  refine x_iconst C (v := 0) dL_refuses_534 (by decide) ?_
  have h135 : X5_carry S 0 2147483647 = some (1, 0, S) := q_carry_m r.1 (by decide)
  refine x_ci (mc := 1) (ms := 6) (x_runSW C hX hN (As := [.ref (ad 32), .int 4, .int 0, .int 2147483647, .int 0, .int 0]) (rest := []) (c_L_act_carry_th0 hfl h135) (cw_L_refuses_L_act_th C) rfl (Nat.le_of_ble_eq_true rfl) dL_refuses_535 ⟨by show _ ≤ 225; omega, by show _ ≤ 1350; omega⟩) ?_
  refine x_bipush C (v := (-71)) dL_refuses_538 (by decide) ?_
  refine x_icmp_ne C (t := 793) dL_refuses_540 (by decide) (fun c9 => absurd c9 (by decide)) (fun _ => ?_)
  refine x_aload_n C 0 dL_refuses_543 rfl ?_
  refine x_iconst C (v := 5) dL_refuses_544 (by decide) ?_
  refine x_iload C 8 dL_refuses_545 rfl ?_
  refine x_iconst C (v := 1) dL_refuses_547 (by decide) ?_
  refine x_icmp_ne C (t := 555) dL_refuses_548 (by decide) (fun _ => ?_) (fun c9 => absurd c9 (by decide))
  refine x_iload C 9 dL_refuses_555 rfl ?_
  refine x_iconst C (v := 0) dL_refuses_557 (by decide) ?_
  refine x_iconst C (v := 0) dL_refuses_558 (by decide) ?_
  refine x_iconst C (v := 0) dL_refuses_559 (by decide) ?_
  have h136 : X5_timeOf S 2147483647 = some (1, 0) := q_timeOf r.1 (q_litb r.1.2.1 (by decide))
  refine x_ci (mc := 1) (ms := 6) (x_runSW C hX hN (As := [.ref (ad 32), .int 5, .int 2147483647, .int 0, .int 0, .int 0]) (rest := []) (c_L_act_timeOf_th0 hfl h136) (cw_L_refuses_L_act_th C) rfl (Nat.le_of_ble_eq_true rfl) dL_refuses_560 ⟨by show _ ≤ 225; omega, by show _ ≤ 1350; omega⟩) ?_
  refine x_bipush C (v := (-71)) dL_refuses_563 (by decide) ?_
  refine x_icmp_ne C (t := 793) dL_refuses_565 (by decide) (fun c9 => absurd c9 (by decide)) (fun _ => ?_)
  refine x_aload_n C 0 dL_refuses_568 rfl ?_
  refine x_bipush C (v := 6) dL_refuses_569 (by decide) ?_
  refine x_iload C 11 dL_refuses_571 rfl ?_
  refine x_iconst C (v := 0) dL_refuses_573 (by decide) ?_
  refine x_iconst C (v := 0) dL_refuses_574 (by decide) ?_
  refine x_iconst C (v := 0) dL_refuses_575 (by decide) ?_
  have h137 : X5_entries S 2147483647 = some (1, 0) := q_entries_m (by decide)
  refine x_ci (mc := 1) (ms := 6) (x_runSW C hX hN (As := [.ref (ad 32), .int 6, .int 2147483647, .int 0, .int 0, .int 0]) (rest := []) (c_L_act_entries_th0 hfl h137) (cw_L_refuses_L_act_th C) rfl (Nat.le_of_ble_eq_true rfl) dL_refuses_576 ⟨by show _ ≤ 225; omega, by show _ ≤ 1350; omega⟩) ?_
  refine x_bipush C (v := (-71)) dL_refuses_579 (by decide) ?_
  refine x_icmp_ne C (t := 793) dL_refuses_581 (by decide) (fun c9 => absurd c9 (by decide)) (fun _ => ?_)
  refine x_aload_n C 0 dL_refuses_584 rfl ?_
  refine x_bipush C (v := 7) dL_refuses_585 (by decide) ?_
  refine x_iload C 11 dL_refuses_587 rfl ?_
  refine x_iconst C (v := 0) dL_refuses_589 (by decide) ?_
  refine x_iconst C (v := 0) dL_refuses_590 (by decide) ?_
  refine x_iconst C (v := 0) dL_refuses_591 (by decide) ?_
  have h138 : X5_isThere S 2147483647 0 = some (1, 0) := q_isThere_m (by decide)
  refine x_ci (mc := 1) (ms := 6) (x_runSW C hX hN (As := [.ref (ad 32), .int 7, .int 2147483647, .int 0, .int 0, .int 0]) (rest := []) (c_L_act_isThere_th0 hfl h138) (cw_L_refuses_L_act_th C) rfl (Nat.le_of_ble_eq_true rfl) dL_refuses_592 ⟨by show _ ≤ 225; omega, by show _ ≤ 1350; omega⟩) ?_
  refine x_bipush C (v := (-71)) dL_refuses_595 (by decide) ?_
  refine x_icmp_ne C (t := 793) dL_refuses_597 (by decide) (fun c9 => absurd c9 (by decide)) (fun _ => ?_)
  refine x_aload_n C 0 dL_refuses_600 rfl ?_
  refine x_iconst C (v := 0) dL_refuses_601 (by decide) ?_
  refine x_iload C 12 dL_refuses_602 rfl ?_
  have h139 : X5_isThere S 0 2147483647 = some (0, 0) := q_isThere_e (r.2.1 _ (by decide))
  refine x_ci0 (x_runV C (As := [.int 0, .int 2147483647]) (rest := []) (c_X5_isThere_ok h139) (cw_L_refuses_X5_isThere C) 32 rfl rfl rfl (Nat.le_of_ble_eq_true rfl) dL_refuses_604 ⟨by show _ ≤ 225; omega, by show _ ≤ 1350; omega⟩) ?_
  refine x_if_ne C (t := 793) dL_refuses_607 (by decide) (fun c9 => absurd c9 (by decide)) (fun _ => ?_)
  refine x_aload_n C 0 dL_refuses_610 rfl ?_
  refine x_bipush C (v := 10) dL_refuses_611 (by decide) ?_
  refine x_iconst C (v := 0) dL_refuses_613 (by decide) ?_
  refine x_iconst C (v := 0) dL_refuses_614 (by decide) ?_
  refine x_iload C 14 dL_refuses_615 rfl ?_
  refine x_iconst C (v := 0) dL_refuses_617 (by decide) ?_
  have h140 : X5_value S 0 0 2147483647 = some (1, 0) := q_value_a r.1 (by decide)
  refine x_ci (mc := 1) (ms := 6) (x_runSW C hX hN (As := [.ref (ad 32), .int 10, .int 0, .int 0, .int 2147483647, .int 0]) (rest := []) (c_L_act_value_th0 hfl h140) (cw_L_refuses_L_act_th C) rfl (Nat.le_of_ble_eq_true rfl) dL_refuses_618 ⟨by show _ ≤ 225; omega, by show _ ≤ 1350; omega⟩) ?_
  refine x_bipush C (v := (-71)) dL_refuses_621 (by decide) ?_
  refine x_icmp_ne C (t := 793) dL_refuses_623 (by decide) (fun c9 => absurd c9 (by decide)) (fun _ => ?_)
  refine x_aload_n C 0 dL_refuses_626 rfl ?_
  refine x_bipush C (v := 12) dL_refuses_627 (by decide) ?_
  refine x_iconst C (v := 0) dL_refuses_629 (by decide) ?_
  refine x_iload C 12 dL_refuses_630 rfl ?_
  refine x_iconst C (v := (-1)) dL_refuses_632 (by decide) ?_
  refine x_iconst C (v := 0) dL_refuses_633 (by decide) ?_
  have h141 : X5_find S 0 2147483647 (-1) = some (1, 0) := q_find_e (r.2.1 _ (by decide))
  refine x_ci (mc := 1) (ms := 6) (x_runSW C hX hN (As := [.ref (ad 32), .int 12, .int 0, .int 2147483647, .int (-1), .int 0]) (rest := []) (c_L_act_find_th0 hfl h141) (cw_L_refuses_L_act_th C) rfl (Nat.le_of_ble_eq_true rfl) dL_refuses_634 ⟨by show _ ≤ 225; omega, by show _ ≤ 1350; omega⟩) ?_
  refine x_bipush C (v := (-71)) dL_refuses_637 (by decide) ?_
  refine x_icmp_ne C (t := 793) dL_refuses_639 (by decide) (fun c9 => absurd c9 (by decide)) (fun _ => ?_)
  refine x_aload_n C 0 dL_refuses_642 rfl ?_
  refine x_bipush C (v := 12) dL_refuses_643 (by decide) ?_
  refine x_iconst C (v := 0) dL_refuses_645 (by decide) ?_
  refine x_iconst C (v := 0) dL_refuses_646 (by decide) ?_
  refine x_iload C 15 dL_refuses_647 rfl ?_
  refine x_iconst C (v := 0) dL_refuses_649 (by decide) ?_
  have h142 : X5_find S 0 0 2147483647 = some (2, 0) := q_find_l r.1 (by decide)
  refine x_ci (mc := 1) (ms := 6) (x_runSW C hX hN (As := [.ref (ad 32), .int 12, .int 0, .int 0, .int 2147483647, .int 0]) (rest := []) (c_L_act_find_th1 hfl h142) (cw_L_refuses_L_act_th C) rfl (Nat.le_of_ble_eq_true rfl) dL_refuses_650 ⟨by show _ ≤ 225; omega, by show _ ≤ 1350; omega⟩) ?_
  refine x_bipush C (v := (-72)) dL_refuses_653 (by decide) ?_
  refine x_icmp_ne C (t := 793) dL_refuses_655 (by decide) (fun c9 => absurd c9 (by decide)) (fun _ => ?_)
  refine x_aload_n C 0 dL_refuses_658 rfl ?_
  refine x_iload C 13 dL_refuses_659 rfl ?_
  refine x_iconst C (v := 0) dL_refuses_661 (by decide) ?_
  refine x_iconst C (v := 5) dL_refuses_662 (by decide) ?_
  have h143 : X5_setRight S 2147483647 0 5 = some (1, S) := q_right_u (by decide)
  refine x_ci (mc := 1) (ms := 6) (x_runSW C hX hN (As := [.ref (ad 32), .int 2147483647, .int 0, .int 5]) (rest := []) (c_L_right_th0 hfl h143) (cw_L_refuses_L_right_th C) rfl (Nat.le_of_ble_eq_true rfl) dL_refuses_663 ⟨by show _ ≤ 225; omega, by show _ ≤ 1350; omega⟩) ?_
  refine x_bipush C (v := (-71)) dL_refuses_666 (by decide) ?_
  refine x_icmp_ne C (t := 793) dL_refuses_668 (by decide) (fun c9 => absurd c9 (by decide)) (fun _ => ?_)
  refine x_aload_n C 0 dL_refuses_671 rfl ?_
  refine x_iconst C (v := 0) dL_refuses_672 (by decide) ?_
  refine x_iload C 8 dL_refuses_673 rfl ?_
  refine x_iconst C (v := 1) dL_refuses_675 (by decide) ?_
  refine x_icmp_ne C (t := 684) dL_refuses_676 (by decide) (fun _ => ?_) (fun c9 => absurd c9 (by decide))
  refine x_iload C 9 dL_refuses_684 rfl ?_
  refine x_iconst C (v := 5) dL_refuses_686 (by decide) ?_
  have h144 : X5_setRight S 0 2147483647 5 = some (1, S) := q_right_e (by decide)
  refine x_ci (mc := 1) (ms := 6) (x_runSW C hX hN (As := [.ref (ad 32), .int 0, .int 2147483647, .int 5]) (rest := []) (c_L_right_th0 hfl h144) (cw_L_refuses_L_right_th C) rfl (Nat.le_of_ble_eq_true rfl) dL_refuses_687 ⟨by show _ ≤ 225; omega, by show _ ≤ 1350; omega⟩) ?_
  refine x_bipush C (v := (-71)) dL_refuses_690 (by decide) ?_
  refine x_icmp_ne C (t := 793) dL_refuses_692 (by decide) (fun c9 => absurd c9 (by decide)) (fun _ => ?_)
  refine x_aload_n C 0 dL_refuses_695 rfl ?_
  refine x_iconst C (v := 0) dL_refuses_696 (by decide) ?_
  refine x_iconst C (v := 0) dL_refuses_697 (by decide) ?_
  refine x_iload C 8 dL_refuses_698 rfl ?_
  refine x_iconst C (v := 1) dL_refuses_700 (by decide) ?_
  refine x_icmp_ne C (t := 708) dL_refuses_701 (by decide) (fun _ => ?_) (fun c9 => absurd c9 (by decide))
  refine x_iload C 10 dL_refuses_708 rfl ?_
  have h145 : X5_setRight S 0 0 2147483647 = some (2, S) := q_right_v (by decide)
  refine x_ci (mc := 1) (ms := 6) (x_runSW C hX hN (As := [.ref (ad 32), .int 0, .int 0, .int 2147483647]) (rest := []) (c_L_right_th1 hfl h145) (cw_L_refuses_L_right_th C) rfl (Nat.le_of_ble_eq_true rfl) dL_refuses_710 ⟨by show _ ≤ 225; omega, by show _ ≤ 1350; omega⟩) ?_
  refine x_bipush C (v := (-72)) dL_refuses_713 (by decide) ?_
  refine x_icmp_ne C (t := 793) dL_refuses_715 (by decide) (fun c9 => absurd c9 (by decide)) (fun _ => ?_)
  refine x_aload_n C 0 dL_refuses_718 rfl ?_
  refine x_iload C 8 dL_refuses_719 rfl ?_
  refine x_iconst C (v := 1) dL_refuses_721 (by decide) ?_
  refine x_icmp_ne C (t := 730) dL_refuses_722 (by decide) (fun _ => ?_) (fun c9 => absurd c9 (by decide))
  refine x_iload C 9 dL_refuses_730 rfl ?_
  refine x_iconst C (v := 1) dL_refuses_732 (by decide) ?_
  have h146 : X5_refer S 2147483647 1 = some (1, S) := q_refer (by decide)
  refine x_ci (mc := 1) (ms := 6) (x_runSW C hX hN (As := [.ref (ad 32), .int 2147483647, .int 1]) (rest := []) (c_L_refer_th0 hfl h146) (cw_L_refuses_L_refer_th C) rfl (Nat.le_of_ble_eq_true rfl) dL_refuses_733 ⟨by show _ ≤ 225; omega, by show _ ≤ 1350; omega⟩) ?_
  refine x_bipush C (v := (-71)) dL_refuses_736 (by decide) ?_
  refine x_icmp_ne C (t := 793) dL_refuses_738 (by decide) (fun c9 => absurd c9 (by decide)) (fun _ => ?_)
  refine x_aload_n C 0 dL_refuses_741 rfl ?_
  refine x_bipush C (v := 13) dL_refuses_742 (by decide) ?_
  refine x_iload C 13 dL_refuses_744 rfl ?_
  refine x_iconst C (v := 0) dL_refuses_746 (by decide) ?_
  refine x_iconst C (v := 0) dL_refuses_747 (by decide) ?_
  refine x_iconst C (v := 0) dL_refuses_748 (by decide) ?_
  have h147 : X5_test S 2147483647 0 0 = some (2, 0, S) := q_test_k (by decide)
  refine x_ci (mc := 1) (ms := 6) (x_runSW C hX hN (As := [.ref (ad 32), .int 13, .int 2147483647, .int 0, .int 0, .int 0]) (rest := []) (c_L_act_test_th1 hfl h147) (cw_L_refuses_L_act_th C) rfl (Nat.le_of_ble_eq_true rfl) dL_refuses_749 ⟨by show _ ≤ 225; omega, by show _ ≤ 1350; omega⟩) ?_
  refine x_bipush C (v := (-72)) dL_refuses_752 (by decide) ?_
  refine x_icmp_ne C (t := 793) dL_refuses_754 (by decide) (fun c9 => absurd c9 (by decide)) (fun _ => ?_)
  refine x_aload_n C 0 dL_refuses_757 rfl ?_
  refine x_bipush C (v := 13) dL_refuses_758 (by decide) ?_
  refine x_iconst C (v := 0) dL_refuses_760 (by decide) ?_
  refine x_iload C 14 dL_refuses_761 rfl ?_
  refine x_iconst C (v := 0) dL_refuses_763 (by decide) ?_
  refine x_iconst C (v := 0) dL_refuses_764 (by decide) ?_
  have h148 : X5_test S 0 2147483647 0 = some (2, 0, S) := q_test_a (by decide)
  refine x_ci (mc := 1) (ms := 6) (x_runSW C hX hN (As := [.ref (ad 32), .int 13, .int 0, .int 2147483647, .int 0, .int 0]) (rest := []) (c_L_act_test_th1 hfl h148) (cw_L_refuses_L_act_th C) rfl (Nat.le_of_ble_eq_true rfl) dL_refuses_765 ⟨by show _ ≤ 225; omega, by show _ ≤ 1350; omega⟩) ?_
  refine x_bipush C (v := (-72)) dL_refuses_768 (by decide) ?_
  refine x_icmp_ne C (t := 793) dL_refuses_770 (by decide) (fun c9 => absurd c9 (by decide)) (fun _ => ?_)
  refine x_aload_n C 0 dL_refuses_773 rfl ?_
  refine x_bipush C (v := 13) dL_refuses_774 (by decide) ?_
  refine x_iconst C (v := 0) dL_refuses_776 (by decide) ?_
  refine x_iconst C (v := 0) dL_refuses_777 (by decide) ?_
  refine x_iload C 17 dL_refuses_778 rfl ?_
  refine x_iconst C (v := 0) dL_refuses_780 (by decide) ?_
  have h149 : X5_test S 0 0 2147483647 = some (2, 0, S) := q_test_v (by decide)
  refine x_ci (mc := 1) (ms := 6) (x_runSW C hX hN (As := [.ref (ad 32), .int 13, .int 0, .int 0, .int 2147483647, .int 0]) (rest := []) (c_L_act_test_th1 hfl h149) (cw_L_refuses_L_act_th C) rfl (Nat.le_of_ble_eq_true rfl) dL_refuses_781 ⟨by show _ ≤ 225; omega, by show _ ≤ 1350; omega⟩) ?_
  refine x_bipush C (v := (-72)) dL_refuses_784 (by decide) ?_
  refine x_icmp_ne C (t := 793) dL_refuses_786 (by decide) (fun c9 => absurd c9 (by decide)) (fun _ => ?_)
  refine x_iconst C (v := 1) dL_refuses_789 (by decide) ?_
  refine x_goto C (t := 794) dL_refuses_790 (by decide) ?_
  refine x_istore C (lv' := [(0, .ref (ad 32)), (1, .int (nI F)), (2, .int (nI g)), (3, .int (nI n)), (4, .int e0), (5, .int e1), (6, .int al), (7, .int 2147483647), (8, .int 2), (9, .int 2147483647), (10, .int 2147483647), (11, .int 2147483647), (12, .int 2147483647), (13, .int 2147483647), (14, .int 2147483647), (15, .int 2147483647), (16, .int 2147483647), (17, .int 2147483647), (18, .int 2147483647), (19, .int 1)]) dL_refuses_794 (by decide) rfl ?_
  exact x_widen (by omega) (by omega) K
set_option maxHeartbeats 4000000 in
set_option maxRecDepth 100000 in
theorem rs2_d {p : Program} {l : Launch} {e : Env} {s : State} {m : MethodId} {args : Array Value} {below : List Frame} {meth : Method} {c : Code} {D : va_G} {cI cZ cJ : ClassId} {ad : Nat → Nat} {S : St} {rest w0 : va_W} {Q : State → Prop} {n F g kk jj : Nat} {e0 e1 al : Int32} (hfl : l.stackTraces = false) (C : XC p rm_L_refuses s m args meth c cL_refuses 21 (some .boolean) RL wsL_refuses D (t3 cI cZ cJ)) (hX : XS (va_A w0 s.heap.size) s s.heap) (hN : NC s) (r : RFS S n F g) (hk : kk + 10 ≤ 225) (hj : jj + 60 ≤ 1350) (K : XW p l e rm_L_refuses s m args below meth c D w0 21 Q (wE cI cZ ad S (eo ad (ad 0) (ad 7) rest)) (kk + 10) (jj + 60) 857 [(0, .ref (ad 32)), (1, .int (nI F)), (2, .int (nI g)), (3, .int (nI n)), (4, .int e0), (5, .int e1), (6, .int al), (7, .int 2147483647), (8, .int 2), (9, .int 2147483647), (10, .int 2147483647), (11, .int 2147483647), (12, .int 2147483647), (13, .int 2147483647), (14, .int 2147483647), (15, .int 2147483647), (16, .int 2147483647), (17, .int 2147483647), (18, .int 2147483647), (19, .int 1), (20, .int 13)] []) : XW p l e rm_L_refuses s m args below meth c D w0 21 Q (wE cI cZ ad S (eo ad (ad 0) (ad 7) rest)) kk jj 796 [(0, .ref (ad 32)), (1, .int (nI F)), (2, .int (nI g)), (3, .int (nI n)), (4, .int e0), (5, .int e1), (6, .int al), (7, .int 2147483647), (8, .int 2), (9, .int 2147483647), (10, .int 2147483647), (11, .int 2147483647), (12, .int 2147483647), (13, .int 2147483647), (14, .int 2147483647), (15, .int 2147483647), (16, .int 2147483647), (17, .int 2147483647), (18, .int 2147483647), (19, .int 1)] [] := by
  refine x_bipush C (v := 8) dL_refuses_796 (by decide) ?_
  refine x_istore C (lv' := [(0, .ref (ad 32)), (1, .int (nI F)), (2, .int (nI g)), (3, .int (nI n)), (4, .int e0), (5, .int e1), (6, .int al), (7, .int 2147483647), (8, .int 2), (9, .int 2147483647), (10, .int 2147483647), (11, .int 2147483647), (12, .int 2147483647), (13, .int 2147483647), (14, .int 2147483647), (15, .int 2147483647), (16, .int 2147483647), (17, .int 2147483647), (18, .int 2147483647), (19, .int 1), (20, .int 8)]) dL_refuses_798 (by decide) rfl ?_
  refine x_iload C 20 dL_refuses_800 rfl ?_
  refine x_bipush C (v := 13) dL_refuses_802 (by decide) ?_
  refine x_icmp_ge C (t := 857) dL_refuses_804 (by decide) (fun c9 => absurd c9 (by decide)) (fun _ => ?_)
  refine x_iload C 19 dL_refuses_807 rfl ?_
  refine x_if_eq C (t := 848) dL_refuses_809 (by decide) (fun c9 => absurd c9 (by decide)) (fun _ => ?_)
  refine x_aload_n C 0 dL_refuses_812 rfl ?_
  refine x_iload C 20 dL_refuses_813 rfl ?_
  refine x_iload C 11 dL_refuses_815 rfl ?_
  refine x_iconst C (v := 0) dL_refuses_817 (by decide) ?_
  refine x_iconst C (v := 0) dL_refuses_818 (by decide) ?_
  refine x_iconst C (v := 0) dL_refuses_819 (by decide) ?_
  have h150 : X5_parentOf S 2147483647 0 = some (1, 0) := q_parentOf_m (by decide)
  refine x_ci (mc := 1) (ms := 6) (x_runSW C hX hN (As := [.ref (ad 32), .int 8, .int 2147483647, .int 0, .int 0, .int 0]) (rest := []) (c_L_act_parentOf_th0 hfl h150) (cw_L_refuses_L_act_th C) rfl (Nat.le_of_ble_eq_true rfl) dL_refuses_820 ⟨by show _ ≤ 225; omega, by show _ ≤ 1350; omega⟩) ?_
  refine x_bipush C (v := (-71)) dL_refuses_823 (by decide) ?_
  refine x_icmp_ne C (t := 848) dL_refuses_825 (by decide) (fun c9 => absurd c9 (by decide)) (fun _ => ?_)
  refine x_aload_n C 0 dL_refuses_828 rfl ?_
  refine x_iload C 20 dL_refuses_829 rfl ?_
  refine x_iconst C (v := 0) dL_refuses_831 (by decide) ?_
  refine x_iload C 12 dL_refuses_832 rfl ?_
  refine x_iconst C (v := 0) dL_refuses_834 (by decide) ?_
  refine x_iconst C (v := 0) dL_refuses_835 (by decide) ?_
  have h151 : X5_parentOf S 0 2147483647 = some (1, 0) := q_parentOf_e (r.2.1 _ (by decide))
  refine x_ci (mc := 1) (ms := 6) (x_runSW C hX hN (As := [.ref (ad 32), .int 8, .int 0, .int 2147483647, .int 0, .int 0]) (rest := []) (c_L_act_parentOf_th0 hfl h151) (cw_L_refuses_L_act_th C) rfl (Nat.le_of_ble_eq_true rfl) dL_refuses_836 ⟨by show _ ≤ 225; omega, by show _ ≤ 1350; omega⟩) ?_
  refine x_bipush C (v := (-71)) dL_refuses_839 (by decide) ?_
  refine x_icmp_ne C (t := 848) dL_refuses_841 (by decide) (fun c9 => absurd c9 (by decide)) (fun _ => ?_)
  refine x_iconst C (v := 1) dL_refuses_844 (by decide) ?_
  refine x_goto C (t := 849) dL_refuses_845 (by decide) ?_
  refine x_istore C (lv' := [(0, .ref (ad 32)), (1, .int (nI F)), (2, .int (nI g)), (3, .int (nI n)), (4, .int e0), (5, .int e1), (6, .int al), (7, .int 2147483647), (8, .int 2), (9, .int 2147483647), (10, .int 2147483647), (11, .int 2147483647), (12, .int 2147483647), (13, .int 2147483647), (14, .int 2147483647), (15, .int 2147483647), (16, .int 2147483647), (17, .int 2147483647), (18, .int 2147483647), (19, .int 1), (20, .int 8)]) dL_refuses_849 (by decide) rfl ?_
  refine x_iinc C 20 (v := 9) (lv' := [(0, .ref (ad 32)), (1, .int (nI F)), (2, .int (nI g)), (3, .int (nI n)), (4, .int e0), (5, .int e1), (6, .int al), (7, .int 2147483647), (8, .int 2), (9, .int 2147483647), (10, .int 2147483647), (11, .int 2147483647), (12, .int 2147483647), (13, .int 2147483647), (14, .int 2147483647), (15, .int 2147483647), (16, .int 2147483647), (17, .int 2147483647), (18, .int 2147483647), (19, .int 1), (20, .int 9)]) dL_refuses_851 rfl (by decide) (by decide) rfl ?_
  refine x_goto C (t := 800) dL_refuses_854 (by decide) ?_
  refine x_iload C 20 dL_refuses_800 rfl ?_
  refine x_bipush C (v := 13) dL_refuses_802 (by decide) ?_
  refine x_icmp_ge C (t := 857) dL_refuses_804 (by decide) (fun c9 => absurd c9 (by decide)) (fun _ => ?_)
  refine x_iload C 19 dL_refuses_807 rfl ?_
  refine x_if_eq C (t := 848) dL_refuses_809 (by decide) (fun c9 => absurd c9 (by decide)) (fun _ => ?_)
  refine x_aload_n C 0 dL_refuses_812 rfl ?_
  refine x_iload C 20 dL_refuses_813 rfl ?_
  refine x_iload C 11 dL_refuses_815 rfl ?_
  refine x_iconst C (v := 0) dL_refuses_817 (by decide) ?_
  refine x_iconst C (v := 0) dL_refuses_818 (by decide) ?_
  refine x_iconst C (v := 0) dL_refuses_819 (by decide) ?_
  have h152 : X5_labelOf S 2147483647 0 = some (1, 0) := q_labelOf_m (by decide)
  refine x_ci (mc := 1) (ms := 6) (x_runSW C hX hN (As := [.ref (ad 32), .int 9, .int 2147483647, .int 0, .int 0, .int 0]) (rest := []) (c_L_act_labelOf_th0 hfl h152) (cw_L_refuses_L_act_th C) rfl (Nat.le_of_ble_eq_true rfl) dL_refuses_820 ⟨by show _ ≤ 225; omega, by show _ ≤ 1350; omega⟩) ?_
  refine x_bipush C (v := (-71)) dL_refuses_823 (by decide) ?_
  refine x_icmp_ne C (t := 848) dL_refuses_825 (by decide) (fun c9 => absurd c9 (by decide)) (fun _ => ?_)
  refine x_aload_n C 0 dL_refuses_828 rfl ?_
  refine x_iload C 20 dL_refuses_829 rfl ?_
  refine x_iconst C (v := 0) dL_refuses_831 (by decide) ?_
  refine x_iload C 12 dL_refuses_832 rfl ?_
  refine x_iconst C (v := 0) dL_refuses_834 (by decide) ?_
  refine x_iconst C (v := 0) dL_refuses_835 (by decide) ?_
  have h153 : X5_labelOf S 0 2147483647 = some (1, 0) := q_labelOf_e (r.2.1 _ (by decide))
  refine x_ci (mc := 1) (ms := 6) (x_runSW C hX hN (As := [.ref (ad 32), .int 9, .int 0, .int 2147483647, .int 0, .int 0]) (rest := []) (c_L_act_labelOf_th0 hfl h153) (cw_L_refuses_L_act_th C) rfl (Nat.le_of_ble_eq_true rfl) dL_refuses_836 ⟨by show _ ≤ 225; omega, by show _ ≤ 1350; omega⟩) ?_
  refine x_bipush C (v := (-71)) dL_refuses_839 (by decide) ?_
  refine x_icmp_ne C (t := 848) dL_refuses_841 (by decide) (fun c9 => absurd c9 (by decide)) (fun _ => ?_)
  refine x_iconst C (v := 1) dL_refuses_844 (by decide) ?_
  refine x_goto C (t := 849) dL_refuses_845 (by decide) ?_
  refine x_istore C (lv' := [(0, .ref (ad 32)), (1, .int (nI F)), (2, .int (nI g)), (3, .int (nI n)), (4, .int e0), (5, .int e1), (6, .int al), (7, .int 2147483647), (8, .int 2), (9, .int 2147483647), (10, .int 2147483647), (11, .int 2147483647), (12, .int 2147483647), (13, .int 2147483647), (14, .int 2147483647), (15, .int 2147483647), (16, .int 2147483647), (17, .int 2147483647), (18, .int 2147483647), (19, .int 1), (20, .int 9)]) dL_refuses_849 (by decide) rfl ?_
  refine x_iinc C 20 (v := 10) (lv' := [(0, .ref (ad 32)), (1, .int (nI F)), (2, .int (nI g)), (3, .int (nI n)), (4, .int e0), (5, .int e1), (6, .int al), (7, .int 2147483647), (8, .int 2), (9, .int 2147483647), (10, .int 2147483647), (11, .int 2147483647), (12, .int 2147483647), (13, .int 2147483647), (14, .int 2147483647), (15, .int 2147483647), (16, .int 2147483647), (17, .int 2147483647), (18, .int 2147483647), (19, .int 1), (20, .int 10)]) dL_refuses_851 rfl (by decide) (by decide) rfl ?_
  refine x_goto C (t := 800) dL_refuses_854 (by decide) ?_
  refine x_iload C 20 dL_refuses_800 rfl ?_
  refine x_bipush C (v := 13) dL_refuses_802 (by decide) ?_
  refine x_icmp_ge C (t := 857) dL_refuses_804 (by decide) (fun c9 => absurd c9 (by decide)) (fun _ => ?_)
  refine x_iload C 19 dL_refuses_807 rfl ?_
  refine x_if_eq C (t := 848) dL_refuses_809 (by decide) (fun c9 => absurd c9 (by decide)) (fun _ => ?_)
  refine x_aload_n C 0 dL_refuses_812 rfl ?_
  refine x_iload C 20 dL_refuses_813 rfl ?_
  refine x_iload C 11 dL_refuses_815 rfl ?_
  refine x_iconst C (v := 0) dL_refuses_817 (by decide) ?_
  refine x_iconst C (v := 0) dL_refuses_818 (by decide) ?_
  refine x_iconst C (v := 0) dL_refuses_819 (by decide) ?_
  have h154 : X5_value S 2147483647 0 0 = some (1, 0) := q_value_m (by decide)
  refine x_ci (mc := 1) (ms := 6) (x_runSW C hX hN (As := [.ref (ad 32), .int 10, .int 2147483647, .int 0, .int 0, .int 0]) (rest := []) (c_L_act_value_th0 hfl h154) (cw_L_refuses_L_act_th C) rfl (Nat.le_of_ble_eq_true rfl) dL_refuses_820 ⟨by show _ ≤ 225; omega, by show _ ≤ 1350; omega⟩) ?_
  refine x_bipush C (v := (-71)) dL_refuses_823 (by decide) ?_
  refine x_icmp_ne C (t := 848) dL_refuses_825 (by decide) (fun c9 => absurd c9 (by decide)) (fun _ => ?_)
  refine x_aload_n C 0 dL_refuses_828 rfl ?_
  refine x_iload C 20 dL_refuses_829 rfl ?_
  refine x_iconst C (v := 0) dL_refuses_831 (by decide) ?_
  refine x_iload C 12 dL_refuses_832 rfl ?_
  refine x_iconst C (v := 0) dL_refuses_834 (by decide) ?_
  refine x_iconst C (v := 0) dL_refuses_835 (by decide) ?_
  have h155 : X5_value S 0 2147483647 0 = some (1, 0) := q_value_e (r.2.1 _ (by decide))
  refine x_ci (mc := 1) (ms := 6) (x_runSW C hX hN (As := [.ref (ad 32), .int 10, .int 0, .int 2147483647, .int 0, .int 0]) (rest := []) (c_L_act_value_th0 hfl h155) (cw_L_refuses_L_act_th C) rfl (Nat.le_of_ble_eq_true rfl) dL_refuses_836 ⟨by show _ ≤ 225; omega, by show _ ≤ 1350; omega⟩) ?_
  refine x_bipush C (v := (-71)) dL_refuses_839 (by decide) ?_
  refine x_icmp_ne C (t := 848) dL_refuses_841 (by decide) (fun c9 => absurd c9 (by decide)) (fun _ => ?_)
  refine x_iconst C (v := 1) dL_refuses_844 (by decide) ?_
  refine x_goto C (t := 849) dL_refuses_845 (by decide) ?_
  refine x_istore C (lv' := [(0, .ref (ad 32)), (1, .int (nI F)), (2, .int (nI g)), (3, .int (nI n)), (4, .int e0), (5, .int e1), (6, .int al), (7, .int 2147483647), (8, .int 2), (9, .int 2147483647), (10, .int 2147483647), (11, .int 2147483647), (12, .int 2147483647), (13, .int 2147483647), (14, .int 2147483647), (15, .int 2147483647), (16, .int 2147483647), (17, .int 2147483647), (18, .int 2147483647), (19, .int 1), (20, .int 10)]) dL_refuses_849 (by decide) rfl ?_
  refine x_iinc C 20 (v := 11) (lv' := [(0, .ref (ad 32)), (1, .int (nI F)), (2, .int (nI g)), (3, .int (nI n)), (4, .int e0), (5, .int e1), (6, .int al), (7, .int 2147483647), (8, .int 2), (9, .int 2147483647), (10, .int 2147483647), (11, .int 2147483647), (12, .int 2147483647), (13, .int 2147483647), (14, .int 2147483647), (15, .int 2147483647), (16, .int 2147483647), (17, .int 2147483647), (18, .int 2147483647), (19, .int 1), (20, .int 11)]) dL_refuses_851 rfl (by decide) (by decide) rfl ?_
  refine x_goto C (t := 800) dL_refuses_854 (by decide) ?_
  refine x_iload C 20 dL_refuses_800 rfl ?_
  refine x_bipush C (v := 13) dL_refuses_802 (by decide) ?_
  refine x_icmp_ge C (t := 857) dL_refuses_804 (by decide) (fun c9 => absurd c9 (by decide)) (fun _ => ?_)
  refine x_iload C 19 dL_refuses_807 rfl ?_
  refine x_if_eq C (t := 848) dL_refuses_809 (by decide) (fun c9 => absurd c9 (by decide)) (fun _ => ?_)
  refine x_aload_n C 0 dL_refuses_812 rfl ?_
  refine x_iload C 20 dL_refuses_813 rfl ?_
  refine x_iload C 11 dL_refuses_815 rfl ?_
  refine x_iconst C (v := 0) dL_refuses_817 (by decide) ?_
  refine x_iconst C (v := 0) dL_refuses_818 (by decide) ?_
  refine x_iconst C (v := 0) dL_refuses_819 (by decide) ?_
  have h156 : X5_isWhole S 2147483647 0 = some (1, 0) := q_isWhole_m (by decide)
  refine x_ci (mc := 1) (ms := 6) (x_runSW C hX hN (As := [.ref (ad 32), .int 11, .int 2147483647, .int 0, .int 0, .int 0]) (rest := []) (c_L_act_isWhole_th0 hfl h156) (cw_L_refuses_L_act_th C) rfl (Nat.le_of_ble_eq_true rfl) dL_refuses_820 ⟨by show _ ≤ 225; omega, by show _ ≤ 1350; omega⟩) ?_
  refine x_bipush C (v := (-71)) dL_refuses_823 (by decide) ?_
  refine x_icmp_ne C (t := 848) dL_refuses_825 (by decide) (fun c9 => absurd c9 (by decide)) (fun _ => ?_)
  refine x_aload_n C 0 dL_refuses_828 rfl ?_
  refine x_iload C 20 dL_refuses_829 rfl ?_
  refine x_iconst C (v := 0) dL_refuses_831 (by decide) ?_
  refine x_iload C 12 dL_refuses_832 rfl ?_
  refine x_iconst C (v := 0) dL_refuses_834 (by decide) ?_
  refine x_iconst C (v := 0) dL_refuses_835 (by decide) ?_
  have h157 : X5_isWhole S 0 2147483647 = some (1, 0) := q_isWhole_e (r.2.1 _ (by decide))
  refine x_ci (mc := 1) (ms := 6) (x_runSW C hX hN (As := [.ref (ad 32), .int 11, .int 0, .int 2147483647, .int 0, .int 0]) (rest := []) (c_L_act_isWhole_th0 hfl h157) (cw_L_refuses_L_act_th C) rfl (Nat.le_of_ble_eq_true rfl) dL_refuses_836 ⟨by show _ ≤ 225; omega, by show _ ≤ 1350; omega⟩) ?_
  refine x_bipush C (v := (-71)) dL_refuses_839 (by decide) ?_
  refine x_icmp_ne C (t := 848) dL_refuses_841 (by decide) (fun c9 => absurd c9 (by decide)) (fun _ => ?_)
  refine x_iconst C (v := 1) dL_refuses_844 (by decide) ?_
  refine x_goto C (t := 849) dL_refuses_845 (by decide) ?_
  refine x_istore C (lv' := [(0, .ref (ad 32)), (1, .int (nI F)), (2, .int (nI g)), (3, .int (nI n)), (4, .int e0), (5, .int e1), (6, .int al), (7, .int 2147483647), (8, .int 2), (9, .int 2147483647), (10, .int 2147483647), (11, .int 2147483647), (12, .int 2147483647), (13, .int 2147483647), (14, .int 2147483647), (15, .int 2147483647), (16, .int 2147483647), (17, .int 2147483647), (18, .int 2147483647), (19, .int 1), (20, .int 11)]) dL_refuses_849 (by decide) rfl ?_
  refine x_iinc C 20 (v := 12) (lv' := [(0, .ref (ad 32)), (1, .int (nI F)), (2, .int (nI g)), (3, .int (nI n)), (4, .int e0), (5, .int e1), (6, .int al), (7, .int 2147483647), (8, .int 2), (9, .int 2147483647), (10, .int 2147483647), (11, .int 2147483647), (12, .int 2147483647), (13, .int 2147483647), (14, .int 2147483647), (15, .int 2147483647), (16, .int 2147483647), (17, .int 2147483647), (18, .int 2147483647), (19, .int 1), (20, .int 12)]) dL_refuses_851 rfl (by decide) (by decide) rfl ?_
  refine x_goto C (t := 800) dL_refuses_854 (by decide) ?_
  refine x_iload C 20 dL_refuses_800 rfl ?_
  refine x_bipush C (v := 13) dL_refuses_802 (by decide) ?_
  refine x_icmp_ge C (t := 857) dL_refuses_804 (by decide) (fun c9 => absurd c9 (by decide)) (fun _ => ?_)
  refine x_iload C 19 dL_refuses_807 rfl ?_
  refine x_if_eq C (t := 848) dL_refuses_809 (by decide) (fun c9 => absurd c9 (by decide)) (fun _ => ?_)
  refine x_aload_n C 0 dL_refuses_812 rfl ?_
  refine x_iload C 20 dL_refuses_813 rfl ?_
  refine x_iload C 11 dL_refuses_815 rfl ?_
  refine x_iconst C (v := 0) dL_refuses_817 (by decide) ?_
  refine x_iconst C (v := 0) dL_refuses_818 (by decide) ?_
  refine x_iconst C (v := 0) dL_refuses_819 (by decide) ?_
  have h158 : X5_find S 2147483647 0 0 = some (1, 0) := q_find_m (by decide)
  refine x_ci (mc := 1) (ms := 6) (x_runSW C hX hN (As := [.ref (ad 32), .int 12, .int 2147483647, .int 0, .int 0, .int 0]) (rest := []) (c_L_act_find_th0 hfl h158) (cw_L_refuses_L_act_th C) rfl (Nat.le_of_ble_eq_true rfl) dL_refuses_820 ⟨by show _ ≤ 225; omega, by show _ ≤ 1350; omega⟩) ?_
  refine x_bipush C (v := (-71)) dL_refuses_823 (by decide) ?_
  refine x_icmp_ne C (t := 848) dL_refuses_825 (by decide) (fun c9 => absurd c9 (by decide)) (fun _ => ?_)
  refine x_aload_n C 0 dL_refuses_828 rfl ?_
  refine x_iload C 20 dL_refuses_829 rfl ?_
  refine x_iconst C (v := 0) dL_refuses_831 (by decide) ?_
  refine x_iload C 12 dL_refuses_832 rfl ?_
  refine x_iconst C (v := 0) dL_refuses_834 (by decide) ?_
  refine x_iconst C (v := 0) dL_refuses_835 (by decide) ?_
  have h159 : X5_find S 0 2147483647 0 = some (1, 0) := q_find_e (r.2.1 _ (by decide))
  refine x_ci (mc := 1) (ms := 6) (x_runSW C hX hN (As := [.ref (ad 32), .int 12, .int 0, .int 2147483647, .int 0, .int 0]) (rest := []) (c_L_act_find_th0 hfl h159) (cw_L_refuses_L_act_th C) rfl (Nat.le_of_ble_eq_true rfl) dL_refuses_836 ⟨by show _ ≤ 225; omega, by show _ ≤ 1350; omega⟩) ?_
  refine x_bipush C (v := (-71)) dL_refuses_839 (by decide) ?_
  refine x_icmp_ne C (t := 848) dL_refuses_841 (by decide) (fun c9 => absurd c9 (by decide)) (fun _ => ?_)
  refine x_iconst C (v := 1) dL_refuses_844 (by decide) ?_
  refine x_goto C (t := 849) dL_refuses_845 (by decide) ?_
  refine x_istore C (lv' := [(0, .ref (ad 32)), (1, .int (nI F)), (2, .int (nI g)), (3, .int (nI n)), (4, .int e0), (5, .int e1), (6, .int al), (7, .int 2147483647), (8, .int 2), (9, .int 2147483647), (10, .int 2147483647), (11, .int 2147483647), (12, .int 2147483647), (13, .int 2147483647), (14, .int 2147483647), (15, .int 2147483647), (16, .int 2147483647), (17, .int 2147483647), (18, .int 2147483647), (19, .int 1), (20, .int 12)]) dL_refuses_849 (by decide) rfl ?_
  refine x_iinc C 20 (v := 13) (lv' := [(0, .ref (ad 32)), (1, .int (nI F)), (2, .int (nI g)), (3, .int (nI n)), (4, .int e0), (5, .int e1), (6, .int al), (7, .int 2147483647), (8, .int 2), (9, .int 2147483647), (10, .int 2147483647), (11, .int 2147483647), (12, .int 2147483647), (13, .int 2147483647), (14, .int 2147483647), (15, .int 2147483647), (16, .int 2147483647), (17, .int 2147483647), (18, .int 2147483647), (19, .int 1), (20, .int 13)]) dL_refuses_851 rfl (by decide) (by decide) rfl ?_
  refine x_goto C (t := 800) dL_refuses_854 (by decide) ?_
  refine x_iload C 20 dL_refuses_800 rfl ?_
  refine x_bipush C (v := 13) dL_refuses_802 (by decide) ?_
  refine x_icmp_ge C (t := 857) dL_refuses_804 (by decide) (fun _ => ?_) (fun c9 => absurd c9 (by decide))
  exact x_widen (by omega) (by omega) K
set_option maxHeartbeats 4000000 in
set_option maxRecDepth 100000 in
theorem rs2_e {p : Program} {l : Launch} {e : Env} {s : State} {m : MethodId} {args : Array Value} {below : List Frame} {meth : Method} {c : Code} {D : va_G} {cI cZ cJ : ClassId} {ad : Nat → Nat} {S : St} {rest w0 : va_W} {Q : State → Prop} {n F g kk jj : Nat} {e0 e1 al : Int32} (hfl : l.stackTraces = false) (C : XC p rm_L_refuses s m args meth c cL_refuses 21 (some .boolean) RL wsL_refuses D (t3 cI cZ cJ)) (hX : XS (va_A w0 s.heap.size) s s.heap) (hN : NC s) (r : RFS S n F g) (hk : kk + 12 ≤ 225) (hj : jj + 72 ≤ 1350) (K : XW p l e rm_L_refuses s m args below meth c D w0 21 Q (wE cI cZ ad S (eo ad (ad 0) (ad 7) rest)) (kk + 12) (jj + 72) 32 [(0, .ref (ad 32)), (1, .int (nI F)), (2, .int (nI g)), (3, .int (nI n)), (4, .int e0), (5, .int e1), (6, .int al), (7, .int 2147483647), (8, .int 3)] []) : XW p l e rm_L_refuses s m args below meth c D w0 21 Q (wE cI cZ ad S (eo ad (ad 0) (ad 7) rest)) kk jj 857 [(0, .ref (ad 32)), (1, .int (nI F)), (2, .int (nI g)), (3, .int (nI n)), (4, .int e0), (5, .int e1), (6, .int al), (7, .int 2147483647), (8, .int 2), (9, .int 2147483647), (10, .int 2147483647), (11, .int 2147483647), (12, .int 2147483647), (13, .int 2147483647), (14, .int 2147483647), (15, .int 2147483647), (16, .int 2147483647), (17, .int 2147483647), (18, .int 2147483647), (19, .int 1), (20, .int 13)] [] := by
  refine x_iload C 19 dL_refuses_857 rfl ?_
  refine x_if_eq C (t := 1102) dL_refuses_859 (by decide) (fun c9 => absurd c9 (by decide)) (fun _ => ?_)
  refine x_aload_n C 0 dL_refuses_862 rfl ?_
  refine x_bipush C (v := 14) dL_refuses_863 (by decide) ?_
  refine x_iconst C (v := 5) dL_refuses_865 (by decide) ?_
  refine x_iload C 18 dL_refuses_866 rfl ?_
  refine x_iconst C (v := 0) dL_refuses_868 (by decide) ?_
  refine x_iconst C (v := 0) dL_refuses_869 (by decide) ?_
  have h160 : X5_join S 5 2147483647 0 = some (1, 0, S) := q_join_a r.1 (q_litb r.1.2.2.2.1 (by decide))
  refine x_ci (mc := 1) (ms := 6) (x_runSW C hX hN (As := [.ref (ad 32), .int 14, .int 5, .int 2147483647, .int 0, .int 0]) (rest := []) (c_L_act_join_th0 hfl h160) (cw_L_refuses_L_act_th C) rfl (Nat.le_of_ble_eq_true rfl) dL_refuses_870 ⟨by show _ ≤ 225; omega, by show _ ≤ 1350; omega⟩) ?_
  refine x_bipush C (v := (-71)) dL_refuses_873 (by decide) ?_
  refine x_icmp_ne C (t := 1102) dL_refuses_875 (by decide) (fun c9 => absurd c9 (by decide)) (fun _ => ?_)
  refine x_aload_n C 0 dL_refuses_878 rfl ?_
  refine x_bipush C (v := 14) dL_refuses_879 (by decide) ?_
  refine x_iconst C (v := 5) dL_refuses_881 (by decide) ?_
  refine x_iconst C (v := 0) dL_refuses_882 (by decide) ?_
  refine x_iload C 18 dL_refuses_883 rfl ?_
  refine x_iconst C (v := 0) dL_refuses_885 (by decide) ?_
  have h161 : X5_join S 5 0 2147483647 = some (1, 0, S) := q_join_b r.1 (q_litb r.1.2.2.2.1 (by decide))
  refine x_ci (mc := 1) (ms := 6) (x_runSW C hX hN (As := [.ref (ad 32), .int 14, .int 5, .int 0, .int 2147483647, .int 0]) (rest := []) (c_L_act_join_th0 hfl h161) (cw_L_refuses_L_act_th C) rfl (Nat.le_of_ble_eq_true rfl) dL_refuses_886 ⟨by show _ ≤ 225; omega, by show _ ≤ 1350; omega⟩) ?_
  refine x_bipush C (v := (-71)) dL_refuses_889 (by decide) ?_
  refine x_icmp_ne C (t := 1102) dL_refuses_891 (by decide) (fun c9 => absurd c9 (by decide)) (fun _ => ?_)
  refine x_aload_n C 0 dL_refuses_894 rfl ?_
  refine x_bipush C (v := 15) dL_refuses_895 (by decide) ?_
  refine x_iconst C (v := 0) dL_refuses_897 (by decide) ?_
  refine x_iload C 18 dL_refuses_898 rfl ?_
  refine x_iconst C (v := 0) dL_refuses_900 (by decide) ?_
  refine x_iconst C (v := 0) dL_refuses_901 (by decide) ?_
  have h162 : X5_holds S 0 2147483647 0 = some (1, 0, S) := q_holds_f r.1 (q_litb r.1.2.2.2.1 (by decide))
  refine x_ci (mc := 1) (ms := 6) (x_runSW C hX hN (As := [.ref (ad 32), .int 15, .int 0, .int 2147483647, .int 0, .int 0]) (rest := []) (c_L_act_holds_th0 hfl h162) (cw_L_refuses_L_act_th C) rfl (Nat.le_of_ble_eq_true rfl) dL_refuses_902 ⟨by show _ ≤ 225; omega, by show _ ≤ 1350; omega⟩) ?_
  refine x_bipush C (v := (-71)) dL_refuses_905 (by decide) ?_
  refine x_icmp_ne C (t := 1102) dL_refuses_907 (by decide) (fun c9 => absurd c9 (by decide)) (fun _ => ?_)
  refine x_aload_n C 0 dL_refuses_910 rfl ?_
  refine x_iconst C (v := 0) dL_refuses_911 (by decide) ?_
  refine x_iconst C (v := 0) dL_refuses_912 (by decide) ?_
  refine x_iconst C (v := 0) dL_refuses_913 (by decide) ?_
  refine x_bipush C (v := 9) dL_refuses_914 (by decide) ?_
  refine x_iload C 18 dL_refuses_916 rfl ?_
  refine x_iconst C (v := 0) dL_refuses_918 (by decide) ?_
  have h163 : X5_search S 0 0 0 9 2147483647 0 = some (1, 0, S) := q_search_f r.1 (q_litb r.1.2.2.2.1 (by decide))
  refine x_ci (mc := 1) (ms := 6) (x_runSW C hX hN (As := [.ref (ad 32), .int 0, .int 0, .int 0, .int 9, .int 2147483647, .int 0]) (rest := []) (c_L_search_th0 hfl h163) (cw_L_refuses_L_search_th C) rfl (Nat.le_of_ble_eq_true rfl) dL_refuses_919 ⟨by show _ ≤ 225; omega, by show _ ≤ 1350; omega⟩) ?_
  refine x_bipush C (v := (-71)) dL_refuses_922 (by decide) ?_
  refine x_icmp_ne C (t := 1102) dL_refuses_924 (by decide) (fun c9 => absurd c9 (by decide)) (fun _ => ?_)
  refine x_iload_n C 1 dL_refuses_927 rfl ?_
  refine x_if_eq C (t := 1098) dL_refuses_928 (by decide) (fun c9 => ?_) (fun c9 => ?_)
  · refine x_iconst C (v := 1) dL_refuses_1098 (by decide) ?_
    refine x_goto C (t := 1103) dL_refuses_1099 (by decide) ?_
    refine x_istore C (lv' := [(0, .ref (ad 32)), (1, .int (nI F)), (2, .int (nI g)), (3, .int (nI n)), (4, .int e0), (5, .int e1), (6, .int al), (7, .int 2147483647), (8, .int 2), (9, .int 2147483647), (10, .int 2147483647), (11, .int 2147483647), (12, .int 2147483647), (13, .int 2147483647), (14, .int 2147483647), (15, .int 2147483647), (16, .int 2147483647), (17, .int 2147483647), (18, .int 2147483647), (19, .int 1), (20, .int 13)]) dL_refuses_1103 (by decide) rfl ?_
    refine x_iload C 19 dL_refuses_1105 rfl ?_
    refine x_if_ne C (t := 1112) dL_refuses_1107 (by decide) (fun _ => ?_) (fun c9 => absurd c9 (by decide))
    refine x_iinc C 8 (v := 3) (lv' := [(0, .ref (ad 32)), (1, .int (nI F)), (2, .int (nI g)), (3, .int (nI n)), (4, .int e0), (5, .int e1), (6, .int al), (7, .int 2147483647), (8, .int 3), (9, .int 2147483647), (10, .int 2147483647), (11, .int 2147483647), (12, .int 2147483647), (13, .int 2147483647), (14, .int 2147483647), (15, .int 2147483647), (16, .int 2147483647), (17, .int 2147483647), (18, .int 2147483647), (19, .int 1), (20, .int 13)]) dL_refuses_1112 rfl (by decide) (by decide) rfl ?_
    refine x_goto C (t := 32) dL_refuses_1115 (by decide) ?_
    refine x_locals (lv' := [(0, .ref (ad 32)), (1, .int (nI F)), (2, .int (nI g)), (3, .int (nI n)), (4, .int e0), (5, .int e1), (6, .int al), (7, .int 2147483647), (8, .int 3)]) [0, 1, 2, 3, 4, 5, 6, 7, 8] rfl ?_
    exact x_widen (by omega) (by omega) K
  · have hF : 0 < F := Nat.pos_of_ne_zero (fun h9 => c9 (by rw [h9]; rfl))
    refine x_aload_n C 0 dL_refuses_931 rfl ?_
    refine x_bipush C (v := 14) dL_refuses_932 (by decide) ?_
    refine x_iload C 13 dL_refuses_934 rfl ?_
    refine x_iconst C (v := 0) dL_refuses_936 (by decide) ?_
    refine x_iconst C (v := 0) dL_refuses_937 (by decide) ?_
    refine x_iconst C (v := 0) dL_refuses_938 (by decide) ?_
    have h164 : X5_join S 2147483647 0 0 = some (2, 0, S) := q_join_k r.1 hF (by decide)
    refine x_ci (mc := 1) (ms := 6) (x_runSW C hX hN (As := [.ref (ad 32), .int 14, .int 2147483647, .int 0, .int 0, .int 0]) (rest := []) (c_L_act_join_th1 hfl h164) (cw_L_refuses_L_act_th C) rfl (Nat.le_of_ble_eq_true rfl) dL_refuses_939 ⟨by show _ ≤ 225; omega, by show _ ≤ 1350; omega⟩) ?_
    refine x_bipush C (v := (-72)) dL_refuses_942 (by decide) ?_
    refine x_icmp_ne C (t := 1102) dL_refuses_944 (by decide) (fun c9 => absurd c9 (by decide)) (fun _ => ?_)
    refine x_aload_n C 0 dL_refuses_947 rfl ?_
    refine x_bipush C (v := 15) dL_refuses_948 (by decide) ?_
    refine x_iload C 11 dL_refuses_950 rfl ?_
    refine x_iconst C (v := 0) dL_refuses_952 (by decide) ?_
    refine x_iconst C (v := 0) dL_refuses_953 (by decide) ?_
    refine x_iconst C (v := 0) dL_refuses_954 (by decide) ?_
    have h165 : X5_holds S 2147483647 0 0 = some (1, 0, S) := q_holds_m (by decide)
    refine x_ci (mc := 1) (ms := 6) (x_runSW C hX hN (As := [.ref (ad 32), .int 15, .int 2147483647, .int 0, .int 0, .int 0]) (rest := []) (c_L_act_holds_th0 hfl h165) (cw_L_refuses_L_act_th C) rfl (Nat.le_of_ble_eq_true rfl) dL_refuses_955 ⟨by show _ ≤ 225; omega, by show _ ≤ 1350; omega⟩) ?_
    refine x_bipush C (v := (-71)) dL_refuses_958 (by decide) ?_
    refine x_icmp_ne C (t := 1102) dL_refuses_960 (by decide) (fun c9 => absurd c9 (by decide)) (fun _ => ?_)
    refine x_aload_n C 0 dL_refuses_963 rfl ?_
    refine x_bipush C (v := 15) dL_refuses_964 (by decide) ?_
    refine x_iconst C (v := 0) dL_refuses_966 (by decide) ?_
    refine x_iconst C (v := 0) dL_refuses_967 (by decide) ?_
    refine x_iload C 12 dL_refuses_968 rfl ?_
    refine x_iconst C (v := 0) dL_refuses_970 (by decide) ?_
    have h166 : X5_holds S 0 0 2147483647 = some (1, 0, S) := q_holds_e r.1 hF (r.2.1 _ (by decide))
    refine x_ci (mc := 1) (ms := 6) (x_runSW C hX hN (As := [.ref (ad 32), .int 15, .int 0, .int 0, .int 2147483647, .int 0]) (rest := []) (c_L_act_holds_th0 hfl h166) (cw_L_refuses_L_act_th C) rfl (Nat.le_of_ble_eq_true rfl) dL_refuses_971 ⟨by show _ ≤ 225; omega, by show _ ≤ 1350; omega⟩) ?_
    refine x_bipush C (v := (-71)) dL_refuses_974 (by decide) ?_
    refine x_icmp_ne C (t := 1102) dL_refuses_976 (by decide) (fun c9 => absurd c9 (by decide)) (fun _ => ?_)
    refine x_aload_n C 0 dL_refuses_979 rfl ?_
    refine x_iload C 11 dL_refuses_980 rfl ?_
    refine x_iconst C (v := 0) dL_refuses_982 (by decide) ?_
    refine x_iconst C (v := 0) dL_refuses_983 (by decide) ?_
    refine x_bipush C (v := 9) dL_refuses_984 (by decide) ?_
    refine x_iconst C (v := 0) dL_refuses_986 (by decide) ?_
    refine x_iconst C (v := 0) dL_refuses_987 (by decide) ?_
    have h167 : X5_search S 2147483647 0 0 9 0 0 = some (1, 0, S) := q_search_m (by decide)
    refine x_ci (mc := 1) (ms := 6) (x_runSW C hX hN (As := [.ref (ad 32), .int 2147483647, .int 0, .int 0, .int 9, .int 0, .int 0]) (rest := []) (c_L_search_th0 hfl h167) (cw_L_refuses_L_search_th C) rfl (Nat.le_of_ble_eq_true rfl) dL_refuses_988 ⟨by show _ ≤ 225; omega, by show _ ≤ 1350; omega⟩) ?_
    refine x_bipush C (v := (-71)) dL_refuses_991 (by decide) ?_
    refine x_icmp_ne C (t := 1102) dL_refuses_993 (by decide) (fun c9 => absurd c9 (by decide)) (fun _ => ?_)
    refine x_aload_n C 0 dL_refuses_996 rfl ?_
    refine x_iconst C (v := 0) dL_refuses_997 (by decide) ?_
    refine x_iload C 13 dL_refuses_998 rfl ?_
    refine x_iconst C (v := 0) dL_refuses_1000 (by decide) ?_
    refine x_bipush C (v := 9) dL_refuses_1001 (by decide) ?_
    refine x_iconst C (v := 0) dL_refuses_1003 (by decide) ?_
    refine x_iconst C (v := 0) dL_refuses_1004 (by decide) ?_
    have h168 : X5_search S 0 2147483647 0 9 0 0 = some (1, 0, S) := q_search_u (by decide)
    refine x_ci (mc := 1) (ms := 6) (x_runSW C hX hN (As := [.ref (ad 32), .int 0, .int 2147483647, .int 0, .int 9, .int 0, .int 0]) (rest := []) (c_L_search_th0 hfl h168) (cw_L_refuses_L_search_th C) rfl (Nat.le_of_ble_eq_true rfl) dL_refuses_1005 ⟨by show _ ≤ 225; omega, by show _ ≤ 1350; omega⟩) ?_
    refine x_bipush C (v := (-71)) dL_refuses_1008 (by decide) ?_
    refine x_icmp_ne C (t := 1102) dL_refuses_1010 (by decide) (fun c9 => absurd c9 (by decide)) (fun _ => ?_)
    refine x_aload_n C 0 dL_refuses_1013 rfl ?_
    refine x_iconst C (v := 0) dL_refuses_1014 (by decide) ?_
    refine x_iconst C (v := 0) dL_refuses_1015 (by decide) ?_
    refine x_iload C 12 dL_refuses_1016 rfl ?_
    refine x_bipush C (v := 9) dL_refuses_1018 (by decide) ?_
    refine x_iconst C (v := 0) dL_refuses_1020 (by decide) ?_
    refine x_iconst C (v := 0) dL_refuses_1021 (by decide) ?_
    have h169 : X5_search S 0 0 2147483647 9 0 0 = some (1, 0, S) := q_search_b (r.2.1 _ (by decide))
    refine x_ci (mc := 1) (ms := 6) (x_runSW C hX hN (As := [.ref (ad 32), .int 0, .int 0, .int 2147483647, .int 9, .int 0, .int 0]) (rest := []) (c_L_search_th0 hfl h169) (cw_L_refuses_L_search_th C) rfl (Nat.le_of_ble_eq_true rfl) dL_refuses_1022 ⟨by show _ ≤ 225; omega, by show _ ≤ 1350; omega⟩) ?_
    refine x_bipush C (v := (-71)) dL_refuses_1025 (by decide) ?_
    refine x_icmp_ne C (t := 1102) dL_refuses_1027 (by decide) (fun c9 => absurd c9 (by decide)) (fun _ => ?_)
    refine x_aload_n C 0 dL_refuses_1030 rfl ?_
    refine x_iconst C (v := 0) dL_refuses_1031 (by decide) ?_
    refine x_iconst C (v := 0) dL_refuses_1032 (by decide) ?_
    refine x_iconst C (v := 0) dL_refuses_1033 (by decide) ?_
    refine x_bipush C (v := 9) dL_refuses_1034 (by decide) ?_
    refine x_iconst C (v := 0) dL_refuses_1036 (by decide) ?_
    refine x_iload C 8 dL_refuses_1037 rfl ?_
    refine x_if_ne C (t := 1046) dL_refuses_1039 (by decide) (fun _ => ?_) (fun c9 => absurd c9 (by decide))
    refine x_iload C 8 dL_refuses_1046 rfl ?_
    refine x_iconst C (v := 1) dL_refuses_1048 (by decide) ?_
    refine x_icmp_ne C (t := 1057) dL_refuses_1049 (by decide) (fun _ => ?_) (fun c9 => absurd c9 (by decide))
    refine x_iload C 8 dL_refuses_1057 rfl ?_
    refine x_iconst C (v := 2) dL_refuses_1059 (by decide) ?_
    refine x_icmp_ne C (t := 1069) dL_refuses_1060 (by decide) (fun c9 => absurd c9 (by decide)) (fun _ => ?_)
    refine x_iload C 7 dL_refuses_1063 rfl ?_
    refine x_ineg C (v := (-2147483647)) dL_refuses_1065 (by decide) ?_
    refine x_goto C (t := 1074) dL_refuses_1066 (by decide) ?_
    have h170 : X5_search S 0 0 0 9 0 (-2147483647) = some (1, 0, S) := q_search_p r.1 hF (by decide)
    refine x_ci (mc := 1) (ms := 6) (x_runSW C hX hN (As := [.ref (ad 32), .int 0, .int 0, .int 0, .int 9, .int 0, .int (-2147483647)]) (rest := []) (c_L_search_th0 hfl h170) (cw_L_refuses_L_search_th C) rfl (Nat.le_of_ble_eq_true rfl) dL_refuses_1074 ⟨by show _ ≤ 225; omega, by show _ ≤ 1350; omega⟩) ?_
    refine x_bipush C (v := (-71)) dL_refuses_1077 (by decide) ?_
    refine x_icmp_ne C (t := 1102) dL_refuses_1079 (by decide) (fun c9 => absurd c9 (by decide)) (fun _ => ?_)
    refine x_aload_n C 0 dL_refuses_1082 rfl ?_
    refine x_iconst C (v := 0) dL_refuses_1083 (by decide) ?_
    refine x_iconst C (v := 0) dL_refuses_1084 (by decide) ?_
    refine x_iconst C (v := 0) dL_refuses_1085 (by decide) ?_
    refine x_iload C 13 dL_refuses_1086 rfl ?_
    refine x_iconst C (v := 0) dL_refuses_1088 (by decide) ?_
    refine x_iconst C (v := 0) dL_refuses_1089 (by decide) ?_
    have h171 : X5_search S 0 0 0 2147483647 0 0 = some (2, 0, S) := q_search_s r.1 hF (by decide)
    refine x_ci (mc := 1) (ms := 6) (x_runSW C hX hN (As := [.ref (ad 32), .int 0, .int 0, .int 0, .int 2147483647, .int 0, .int 0]) (rest := []) (c_L_search_th1 hfl h171) (cw_L_refuses_L_search_th C) rfl (Nat.le_of_ble_eq_true rfl) dL_refuses_1090 ⟨by show _ ≤ 225; omega, by show _ ≤ 1350; omega⟩) ?_
    refine x_bipush C (v := (-72)) dL_refuses_1093 (by decide) ?_
    refine x_icmp_ne C (t := 1102) dL_refuses_1095 (by decide) (fun c9 => absurd c9 (by decide)) (fun _ => ?_)
    refine x_iconst C (v := 1) dL_refuses_1098 (by decide) ?_
    refine x_goto C (t := 1103) dL_refuses_1099 (by decide) ?_
    refine x_istore C (lv' := [(0, .ref (ad 32)), (1, .int (nI F)), (2, .int (nI g)), (3, .int (nI n)), (4, .int e0), (5, .int e1), (6, .int al), (7, .int 2147483647), (8, .int 2), (9, .int 2147483647), (10, .int 2147483647), (11, .int 2147483647), (12, .int 2147483647), (13, .int 2147483647), (14, .int 2147483647), (15, .int 2147483647), (16, .int 2147483647), (17, .int 2147483647), (18, .int 2147483647), (19, .int 1), (20, .int 13)]) dL_refuses_1103 (by decide) rfl ?_
    refine x_iload C 19 dL_refuses_1105 rfl ?_
    refine x_if_ne C (t := 1112) dL_refuses_1107 (by decide) (fun _ => ?_) (fun c9 => absurd c9 (by decide))
    refine x_iinc C 8 (v := 3) (lv' := [(0, .ref (ad 32)), (1, .int (nI F)), (2, .int (nI g)), (3, .int (nI n)), (4, .int e0), (5, .int e1), (6, .int al), (7, .int 2147483647), (8, .int 3), (9, .int 2147483647), (10, .int 2147483647), (11, .int 2147483647), (12, .int 2147483647), (13, .int 2147483647), (14, .int 2147483647), (15, .int 2147483647), (16, .int 2147483647), (17, .int 2147483647), (18, .int 2147483647), (19, .int 1), (20, .int 13)]) dL_refuses_1112 rfl (by decide) (by decide) rfl ?_
    refine x_goto C (t := 32) dL_refuses_1115 (by decide) ?_
    refine x_locals (lv' := [(0, .ref (ad 32)), (1, .int (nI F)), (2, .int (nI g)), (3, .int (nI n)), (4, .int e0), (5, .int e1), (6, .int al), (7, .int 2147483647), (8, .int 3)]) [0, 1, 2, 3, 4, 5, 6, 7, 8] rfl ?_
    exact x_widen (by omega) (by omega) K
