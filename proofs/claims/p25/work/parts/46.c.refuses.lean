set_option maxHeartbeats 4000000 in
set_option maxRecDepth 100000 in
theorem rs_end {p : Program} {l : Launch} {e : Env} {s : State} {m : MethodId} {args : Array Value} {below : List Frame} {meth : Method} {c : Code} {D : va_G} {cI cZ cJ : ClassId} {ad : Nat → Nat} {S : St} {rest : va_W} {n F g kk jj : Nat} {e0 e1 al : Int32} (hfl : l.stackTraces = false) (C : XC p rm_L_refuses s m args meth c cL_refuses 21 (some .boolean) RL wsL_refuses D (t3 cI cZ cJ)) (hX : XS (va_A (wE cI cZ ad S (eo ad (ad 0) (ad 7) rest)) s.heap.size) s s.heap) (hN : NC s) (r : RFS S n F g) (h_ch : X5_changes S = some (nI n)) (h_e0 : X5_entries S 0 = some (0, e0)) (h_e1 : X5_entries S 1 = some (0, e1)) (h_al : X5_areAlike S = some al) (hk : kk + 1 ≤ 225) (hj : jj + 6 ≤ 1350) : XW p l e rm_L_refuses s m args below meth c D (wE cI cZ ad S (eo ad (ad 0) (ad 7) rest)) 21 (MQ below (QI D (t3 cI cZ cJ) (wE cI cZ ad S (eo ad (ad 0) (ad 7) rest)) (wE cI cZ ad S (eo ad (ad 0) (ad 7) rest)) s.heap.size 1) args s 225 1350 (va_A (wE cI cZ ad S (eo ad (ad 0) (ad 7) rest)) s.heap.size)) (wE cI cZ ad S (eo ad (ad 0) (ad 7) rest)) kk jj 32 [(0, .ref (ad 32)), (1, .int (nI F)), (2, .int (nI g)), (3, .int (nI n)), (4, .int e0), (5, .int e1), (6, .int al), (7, .int 2147483647), (8, .int 4)] [] := by
  refine x_iload C 8 dL_refuses_32 rfl ?_
  refine x_iconst C (v := 4) dL_refuses_34 (by decide) ?_
  refine x_icmp_ge C (t := 1118) dL_refuses_35 (by decide) (fun _ => ?_) (fun c9 => absurd c9 (by decide))
  refine x_aload_n C 0 dL_refuses_1118 rfl ?_
  refine x_ci0 (x_runV C (As := []) (rest := []) (c_X5_changes h_ch) (cw_L_refuses_X5_changes C) 32 rfl rfl rfl (Nat.le_of_ble_eq_true rfl) dL_refuses_1119 ⟨by show _ ≤ 225; omega, by show _ ≤ 1350; omega⟩) ?_
  refine x_iload_n C 3 dL_refuses_1122 rfl ?_
  refine x_icmp_ne C (t := 1175) dL_refuses_1123 (by decide) (fun c9 => absurd rfl c9) (fun _ => ?_)
  refine x_aload_n C 0 dL_refuses_1126 rfl ?_
  refine x_iconst C (v := 0) dL_refuses_1127 (by decide) ?_
  refine x_ci0 (x_runV C (As := [.int 0]) (rest := []) (c_X5_entries_ok h_e0) (cw_L_refuses_X5_entries C) 32 rfl rfl rfl (Nat.le_of_ble_eq_true rfl) dL_refuses_1128 ⟨by show _ ≤ 225; omega, by show _ ≤ 1350; omega⟩) ?_
  refine x_iload C 4 dL_refuses_1131 rfl ?_
  refine x_icmp_ne C (t := 1175) dL_refuses_1133 (by decide) (fun c9 => absurd rfl c9) (fun _ => ?_)
  refine x_aload_n C 0 dL_refuses_1136 rfl ?_
  refine x_iconst C (v := 1) dL_refuses_1137 (by decide) ?_
  refine x_ci0 (x_runV C (As := [.int 1]) (rest := []) (c_X5_entries_ok h_e1) (cw_L_refuses_X5_entries C) 32 rfl rfl rfl (Nat.le_of_ble_eq_true rfl) dL_refuses_1138 ⟨by show _ ≤ 225; omega, by show _ ≤ 1350; omega⟩) ?_
  refine x_iload C 5 dL_refuses_1141 rfl ?_
  refine x_icmp_ne C (t := 1175) dL_refuses_1143 (by decide) (fun c9 => absurd rfl c9) (fun _ => ?_)
  refine x_aload_n C 0 dL_refuses_1146 rfl ?_
  refine x_ci0 (x_runV C (As := []) (rest := []) (c_X5_areAlike h_al) (cw_L_refuses_X5_areAlike C) 32 rfl rfl rfl (Nat.le_of_ble_eq_true rfl) dL_refuses_1147 ⟨by show _ ≤ 225; omega, by show _ ≤ 1350; omega⟩) ?_
  refine x_iload C 6 dL_refuses_1150 rfl ?_
  refine x_icmp_ne C (t := 1175) dL_refuses_1152 (by decide) (fun c9 => absurd rfl c9) (fun _ => ?_)
  refine x_iload_n C 3 dL_refuses_1155 rfl ?_
  refine x_if_eq C (t := 1171) dL_refuses_1156 (by decide) (fun c9 => ?_) (fun c9 => ?_)
  · refine x_widen (k' := 225) (j' := 1350) (by omega) (by omega) ?_
    refine x_iconst C (v := 1) dL_refuses_1171 (by decide) ?_
    refine x_goto C (t := 1176) dL_refuses_1172 (by decide) ?_
    exact x_zret C (v := 1) (by decide) dL_refuses_1176
  · have hn0 : 0 < n := Nat.pos_of_ne_zero (fun h9 => c9 (by rw [h9]; rfl))
    refine x_aload_n C 0 dL_refuses_1159 rfl ?_
    refine x_iconst C (v := 0) dL_refuses_1160 (by decide) ?_
    refine x_iconst C (v := 0) dL_refuses_1161 (by decide) ?_
    refine x_iconst C (v := 0) dL_refuses_1162 (by decide) ?_
    have h229 : X5_setClass S 0 0 0 = some (3, S) := q_class_full r.1 hn0 (i := 0) (a := 0) (b := 0) (by decide) (by decide) (by decide)
    refine x_ci (mc := 1) (ms := 6) (x_runSW C hX hN (As := [.ref (ad 32), .int 0, .int 0, .int 0]) (rest := []) (c_L_kind_th2 hfl h229) (cw_L_refuses_L_kind_th C) rfl (Nat.le_of_ble_eq_true rfl) dL_refuses_1163 ⟨by show _ ≤ 225; omega, by show _ ≤ 1350; omega⟩) ?_
    refine x_bipush C (v := (-73)) dL_refuses_1166 (by decide) ?_
    refine x_icmp_ne C (t := 1175) dL_refuses_1168 (by decide) (fun c9 => absurd c9 (by decide)) (fun _ => ?_)
    refine x_iconst C (v := 1) dL_refuses_1171 (by decide) ?_
    refine x_goto C (t := 1176) dL_refuses_1172 (by decide) ?_
    refine x_widen (k' := 225) (j' := 1350) (by omega) (by omega) ?_
    exact x_zret C (v := 1) (by decide) dL_refuses_1176
set_option maxHeartbeats 4000000 in
set_option maxRecDepth 100000 in
theorem c_L_refuses {l : Launch} {D : va_G} {cI cZ cJ : ClassId} {ad : Nat → Nat} {S : St} {rest : va_W} {n F g : Nat} (hfl : l.stackTraces = false) (r : RFS S n F g) : ∀ sz, Met l yL_refuses wsL_refuses rm_L_refuses (PY D (t3 cI cZ cJ) [.ref (ad 32), .int (nI F), .int (nI g)] (wE cI cZ ad S (eo ad (ad 0) (ad 7) rest)) sz) (QI D (t3 cI cZ cJ) (wE cI cZ ad S (eo ad (ad 0) (ad 7) rest)) (wE cI cZ ad S (eo ad (ad 0) (ad 7) rest)) sz 1) 225 1350 (va_A (wE cI cZ ad S (eo ad (ad 0) (ad 7) rest)) sz) := by
  obtain ⟨e0, e1, al, h_e0, h_e1, h_al⟩ := r.2.2.2
  have h_e0 : X5_entries S 0 = some (0, e0) := h_e0
  have h_e1 : X5_entries S 1 = some (0, e1) := h_e1
  have h_ch : X5_changes S = some (nI n) := by
    unfold X5_changes
    rw [r.1.1]
  refine x_metY (Qc := fun sz => QI D (t3 cI cZ cJ) (wE cI cZ ad S (eo ad (ad 0) (ad 7) rest)) (wE cI cZ ad S (eo ad (ad 0) (ad 7) rest)) sz 1) RL rfl (by decide) rfl (Nat.le_of_ble_eq_true rfl) (fun p e s m args below meth c C hX hN => ?_)
  refine x_aload_n C 0 dL_refuses_0 rfl ?_
  refine x_ci0 (x_runV C (As := []) (rest := []) (c_X5_changes h_ch) (cw_L_refuses_X5_changes C) 32 rfl rfl rfl (Nat.le_of_ble_eq_true rfl) dL_refuses_1 ⟨by show _ ≤ 225; omega, by show _ ≤ 1350; omega⟩) ?_
  refine x_istore_n C (lv' := [(0, .ref (ad 32)), (1, .int (nI F)), (2, .int (nI g)), (3, .int (nI n))]) dL_refuses_4 (by decide) rfl ?_
  refine x_aload_n C 0 dL_refuses_5 rfl ?_
  refine x_iconst C (v := 0) dL_refuses_6 (by decide) ?_
  refine x_ci0 (x_runV C (As := [.int 0]) (rest := []) (c_X5_entries_ok h_e0) (cw_L_refuses_X5_entries C) 32 rfl rfl rfl (Nat.le_of_ble_eq_true rfl) dL_refuses_7 ⟨by show _ ≤ 225; omega, by show _ ≤ 1350; omega⟩) ?_
  refine x_istore C (lv' := [(0, .ref (ad 32)), (1, .int (nI F)), (2, .int (nI g)), (3, .int (nI n)), (4, .int e0)]) dL_refuses_10 (by decide) rfl ?_
  refine x_aload_n C 0 dL_refuses_12 rfl ?_
  refine x_iconst C (v := 1) dL_refuses_13 (by decide) ?_
  refine x_ci0 (x_runV C (As := [.int 1]) (rest := []) (c_X5_entries_ok h_e1) (cw_L_refuses_X5_entries C) 32 rfl rfl rfl (Nat.le_of_ble_eq_true rfl) dL_refuses_14 ⟨by show _ ≤ 225; omega, by show _ ≤ 1350; omega⟩) ?_
  refine x_istore C (lv' := [(0, .ref (ad 32)), (1, .int (nI F)), (2, .int (nI g)), (3, .int (nI n)), (4, .int e0), (5, .int e1)]) dL_refuses_17 (by decide) rfl ?_
  refine x_aload_n C 0 dL_refuses_19 rfl ?_
  refine x_ci0 (x_runV C (As := []) (rest := []) (c_X5_areAlike h_al) (cw_L_refuses_X5_areAlike C) 32 rfl rfl rfl (Nat.le_of_ble_eq_true rfl) dL_refuses_20 ⟨by show _ ≤ 225; omega, by show _ ≤ 1350; omega⟩) ?_
  refine x_istore C (lv' := [(0, .ref (ad 32)), (1, .int (nI F)), (2, .int (nI g)), (3, .int (nI n)), (4, .int e0), (5, .int e1), (6, .int al)]) dL_refuses_23 (by decide) rfl ?_
  refine x_ldci C (v := 2147483647) ldc_L_refuses_91 dL_refuses_25 ?_
  refine x_istore C (lv' := [(0, .ref (ad 32)), (1, .int (nI F)), (2, .int (nI g)), (3, .int (nI n)), (4, .int e0), (5, .int e1), (6, .int al), (7, .int 2147483647)]) dL_refuses_27 (by decide) rfl ?_
  refine x_iconst C (v := 0) dL_refuses_29 (by decide) ?_
  refine x_istore C (lv' := [(0, .ref (ad 32)), (1, .int (nI F)), (2, .int (nI g)), (3, .int (nI n)), (4, .int e0), (5, .int e1), (6, .int al), (7, .int 2147483647), (8, .int 0)]) dL_refuses_30 (by decide) rfl ?_
  refine rs0_a hfl C hX hN r (by show _ ≤ 225; omega) (by show _ ≤ 1350; omega) ?_
  refine rs0_b hfl C hX hN r (by show _ ≤ 225; omega) (by show _ ≤ 1350; omega) ?_
  refine rs0_c hfl C hX hN r (by show _ ≤ 225; omega) (by show _ ≤ 1350; omega) ?_
  refine rs0_d hfl C hX hN r (by show _ ≤ 225; omega) (by show _ ≤ 1350; omega) ?_
  refine rs0_e hfl C hX hN r (by show _ ≤ 225; omega) (by show _ ≤ 1350; omega) ?_
  refine rs1_a hfl C hX hN r (by show _ ≤ 225; omega) (by show _ ≤ 1350; omega) ?_
  refine rs1_b hfl C hX hN r (by show _ ≤ 225; omega) (by show _ ≤ 1350; omega) ?_
  refine rs1_c hfl C hX hN r (by show _ ≤ 225; omega) (by show _ ≤ 1350; omega) ?_
  refine rs1_d hfl C hX hN r (by show _ ≤ 225; omega) (by show _ ≤ 1350; omega) ?_
  refine rs1_e hfl C hX hN r (by show _ ≤ 225; omega) (by show _ ≤ 1350; omega) ?_
  refine rs2_a hfl C hX hN r (by show _ ≤ 225; omega) (by show _ ≤ 1350; omega) ?_
  refine rs2_b hfl C hX hN r (by show _ ≤ 225; omega) (by show _ ≤ 1350; omega) ?_
  refine rs2_c hfl C hX hN r (by show _ ≤ 225; omega) (by show _ ≤ 1350; omega) ?_
  refine rs2_d hfl C hX hN r (by show _ ≤ 225; omega) (by show _ ≤ 1350; omega) ?_
  refine rs2_e hfl C hX hN r (by show _ ≤ 225; omega) (by show _ ≤ 1350; omega) ?_
  refine rs3_a hfl C hX hN r (by show _ ≤ 225; omega) (by show _ ≤ 1350; omega) ?_
  refine rs3_b hfl C hX hN r (by show _ ≤ 225; omega) (by show _ ≤ 1350; omega) ?_
  refine rs3_c hfl C hX hN r (by show _ ≤ 225; omega) (by show _ ≤ 1350; omega) ?_
  refine rs3_d hfl C hX hN r (by show _ ≤ 225; omega) (by show _ ≤ 1350; omega) ?_
  refine rs3_e hfl C hX hN r (by show _ ≤ 225; omega) (by show _ ≤ 1350; omega) ?_
  exact rs_end hfl C hX hN r h_ch h_e0 h_e1 h_al (by show _ ≤ 225; omega) (by show _ ≤ 1350; omega)
