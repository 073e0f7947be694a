set_option maxHeartbeats 4000000 in
set_option maxRecDepth 100000 in
theorem mvs6 {p : Program} {l : Launch} {e : Env} {s : State} {m : MethodId} {args : Array Value} {below : List Frame} {meth : Method} {c : Code} {D : va_G} {cI cZ cJ : ClassId} {ad : Nat → Nat} {S0 : St} {rest w0 : va_W} {Q : State → Prop} {kk jj : Nat} (hfl : l.stackTraces = false) (C : XC p rm_L_masters s m args meth c cL_masters 1 (some .boolean) RL wsL_masters D (t3 cI cZ cJ)) (hX : XS (va_A w0 s.heap.size) s s.heap) (hN : NC s) (h0 : CS S0 mv16) (hk : kk + 3 ≤ 939) (hj : jj + 18 ≤ 6726) (K : ∀ S', CS S' mv19 → XW p l e rm_L_masters s m args below meth c D w0 1 Q (wE cI cZ ad S' (eo ad (ad 0) (ad 7) rest)) (kk + 3) (jj + 18) 709 [(0, .ref (ad 32))] []) : XW p l e rm_L_masters s m args below meth c D w0 1 Q (wE cI cZ ad S0 (eo ad (ad 0) (ad 7) rest)) kk jj 571 [(0, .ref (ad 32))] [] := by
  refine x_aload_n C 0 dL_masters_571 rfl ?_
  refine x_iconst C (v := 1) dL_masters_572 (by decide) ?_
  refine x_bipush C (v := 8) dL_masters_573 (by decide) ?_
  refine x_iconst C (v := 2) dL_masters_575 (by decide) ?_
  refine x_iconst C (v := 3) dL_masters_576 (by decide) ?_
  obtain ⟨u1, v1, w1⟩ := w_at1 (p := 8) (v := 2) (o := (some 3)) h0 (by decide +kernel)
  have x1 : X5_isThere S0 1 8 = some (0, 1) := u1
  have y1 : X5_parentOf S0 1 8 = some (0, 2) := v1
  have z1 : X5_labelOf S0 1 8 = some (0, 3) := w1
  refine x_ci0 (x_runS C (As := [.ref (ad 32), .int 1, .int 8, .int 2, .int 3]) (rest := []) (c_L_at x1 y1 z1) (cw_L_masters_L_at C) rfl (Nat.le_of_ble_eq_true rfl) dL_masters_577 ⟨by show _ ≤ 939; omega, by show _ ≤ 6726; omega⟩) ?_
  refine x_if_eq C (t := 694) dL_masters_580 (by decide) (fun c9 => absurd c9 (by decide)) (fun _ => ?_)
  refine x_aload_n C 0 dL_masters_583 rfl ?_
  refine x_bipush C (v := 7) dL_masters_584 (by decide) ?_
  refine x_iconst C (v := 1) dL_masters_586 (by decide) ?_
  obtain ⟨S1, f1, g1⟩ := w_carry1 (p := 7) (L9 := [0, 1, 2, 3, 4, 5, 6, 7, 8]) h0 (by decide +kernel)
  have e1 : X5_carry S0 7 1 = some (0, 1, S1) := f1
  have h1 : CS S1 mv17 := g1
  refine x_ci0 (x_runV C (As := [.int 7, .int 1]) (rest := []) (c_X5_carry_ok e1) (cw_L_masters_X5_carry C) 32 rfl rfl rfl (Nat.le_of_ble_eq_true rfl) dL_masters_587 ⟨by show _ ≤ 939; omega, by show _ ≤ 6726; omega⟩) ?_
  refine x_if_eq C (t := 694) dL_masters_590 (by decide) (fun c9 => absurd c9 (by decide)) (fun _ => ?_)
  refine x_aload_n C 0 dL_masters_593 rfl ?_
  refine x_bipush C (v := 8) dL_masters_594 (by decide) ?_
  refine x_iconst C (v := 0) dL_masters_596 (by decide) ?_
  obtain ⟨S2, f2, g2⟩ := w_carry0 (p := 8) (L9 := [0, 1, 2, 3, 4, 5, 6, 7, 8]) h1 (by decide +kernel)
  have e2 : X5_carry S1 8 0 = some (0, 1, S2) := f2
  have h2 : CS S2 mv18 := g2
  refine x_ci0 (x_runV C (As := [.int 8, .int 0]) (rest := []) (c_X5_carry_ok e2) (cw_L_masters_X5_carry C) 32 rfl rfl rfl (Nat.le_of_ble_eq_true rfl) dL_masters_597 ⟨by show _ ≤ 939; omega, by show _ ≤ 6726; omega⟩) ?_
  refine x_if_eq C (t := 694) dL_masters_600 (by decide) (fun c9 => absurd c9 (by decide)) (fun _ => ?_)
  refine x_aload_n C 0 dL_masters_603 rfl ?_
  refine x_iconst C (v := 0) dL_masters_604 (by decide) ?_
  refine x_iconst C (v := 2) dL_masters_605 (by decide) ?_
  refine x_bipush C (v := 8) dL_masters_606 (by decide) ?_
  refine x_iconst C (v := 2) dL_masters_608 (by decide) ?_
  obtain ⟨u2, v2, w2⟩ := w_at0 (p := 2) (v := 8) (o := (some 2)) h2 (by decide +kernel)
  have x2 : X5_isThere S2 0 2 = some (0, 1) := u2
  have y2 : X5_parentOf S2 0 2 = some (0, 8) := v2
  have z2 : X5_labelOf S2 0 2 = some (0, 2) := w2
  refine x_ci0 (x_runS C (As := [.ref (ad 32), .int 0, .int 2, .int 8, .int 2]) (rest := []) (c_L_at x2 y2 z2) (cw_L_masters_L_at C) rfl (Nat.le_of_ble_eq_true rfl) dL_masters_609 ⟨by show _ ≤ 939; omega, by show _ ≤ 6726; omega⟩) ?_
  refine x_if_eq C (t := 694) dL_masters_612 (by decide) (fun c9 => absurd c9 (by decide)) (fun _ => ?_)
  refine x_aload_n C 0 dL_masters_615 rfl ?_
  refine x_iconst C (v := 1) dL_masters_616 (by decide) ?_
  refine x_bipush C (v := 8) dL_masters_617 (by decide) ?_
  refine x_iconst C (v := 0) dL_masters_619 (by decide) ?_
  refine x_bipush C (v := 20) dL_masters_620 (by decide) ?_
  obtain ⟨u3, v3, w3⟩ := w_at1 (p := 8) (v := 0) (o := (some 20)) h2 (by decide +kernel)
  have x3 : X5_isThere S2 1 8 = some (0, 1) := u3
  have y3 : X5_parentOf S2 1 8 = some (0, 0) := v3
  have z3 : X5_labelOf S2 1 8 = some (0, 20) := w3
  refine x_ci0 (x_runS C (As := [.ref (ad 32), .int 1, .int 8, .int 0, .int 20]) (rest := []) (c_L_at x3 y3 z3) (cw_L_masters_L_at C) rfl (Nat.le_of_ble_eq_true rfl) dL_masters_622 ⟨by show _ ≤ 939; omega, by show _ ≤ 6726; omega⟩) ?_
  refine x_if_eq C (t := 694) dL_masters_625 (by decide) (fun c9 => absurd c9 (by decide)) (fun _ => ?_)
  refine x_aload_n C 0 dL_masters_628 rfl ?_
  have q4 : X5_areAlike S2 = some 1 := w_alike_t h2 (by decide +kernel)
  refine x_ci0 (x_runV C (As := []) (rest := []) (c_X5_areAlike q4) (cw_L_masters_X5_areAlike C) 32 rfl rfl rfl (Nat.le_of_ble_eq_true rfl) dL_masters_629 ⟨by show _ ≤ 939; omega, by show _ ≤ 6726; omega⟩) ?_
  refine x_if_eq C (t := 694) dL_masters_632 (by decide) (fun c9 => absurd c9 (by decide)) (fun _ => ?_)
  refine x_aload_n C 0 dL_masters_635 rfl ?_
  refine x_iconst C (v := 2) dL_masters_636 (by decide) ?_
  refine x_iconst C (v := 0) dL_masters_637 (by decide) ?_
  refine x_bipush C (v := 8) dL_masters_638 (by decide) ?_
  refine x_iconst C (v := 2) dL_masters_640 (by decide) ?_
  refine x_bipush C (v := 9) dL_masters_641 (by decide) ?_
  have q5 : X5_move S2 0 8 2 9 = some (3, 0, S2) := w_move_below (p := 8) (q := 2) (l := 9) h2 (by decide +kernel)
  refine x_ci (mc := 1) (ms := 6) (x_runSW C hX hN (As := [.ref (ad 32), .int 2, .int 0, .int 8, .int 2, .int 9]) (rest := []) (c_L_act_move_th2 hfl q5) (cw_L_masters_L_act_th C) rfl (Nat.le_of_ble_eq_true rfl) dL_masters_643 ⟨by show _ ≤ 939; omega, by show _ ≤ 6726; omega⟩) ?_
  refine x_bipush C (v := (-73)) dL_masters_646 (by decide) ?_
  refine x_icmp_ne C (t := 694) dL_masters_648 (by decide) (fun c9 => absurd c9 (by decide)) (fun _ => ?_)
  refine x_aload_n C 0 dL_masters_651 rfl ?_
  refine x_iconst C (v := 2) dL_masters_652 (by decide) ?_
  refine x_iconst C (v := 0) dL_masters_653 (by decide) ?_
  refine x_bipush C (v := 8) dL_masters_654 (by decide) ?_
  refine x_bipush C (v := 8) dL_masters_656 (by decide) ?_
  refine x_bipush C (v := 9) dL_masters_658 (by decide) ?_
  have q6 : X5_move S2 0 8 8 9 = some (3, 0, S2) := w_move_below (p := 8) (q := 8) (l := 9) h2 (by decide +kernel)
  refine x_ci (mc := 1) (ms := 6) (x_runSW C hX hN (As := [.ref (ad 32), .int 2, .int 0, .int 8, .int 8, .int 9]) (rest := []) (c_L_act_move_th2 hfl q6) (cw_L_masters_L_act_th C) rfl (Nat.le_of_ble_eq_true rfl) dL_masters_660 ⟨by show _ ≤ 939; omega, by show _ ≤ 6726; omega⟩) ?_
  refine x_bipush C (v := (-73)) dL_masters_663 (by decide) ?_
  refine x_icmp_ne C (t := 694) dL_masters_665 (by decide) (fun c9 => absurd c9 (by decide)) (fun _ => ?_)
  refine x_aload_n C 0 dL_masters_668 rfl ?_
  refine x_iconst C (v := 3) dL_masters_669 (by decide) ?_
  refine x_iconst C (v := 0) dL_masters_670 (by decide) ?_
  refine x_bipush C (v := 8) dL_masters_671 (by decide) ?_
  refine x_iconst C (v := 0) dL_masters_673 (by decide) ?_
  refine x_iconst C (v := 0) dL_masters_674 (by decide) ?_
  have q7 : X5_delete S2 0 8 = some (3, 0, S2) := w_delete_kid (p := 8) (z := 2) h2 (by decide +kernel)
  refine x_ci (mc := 1) (ms := 6) (x_runSW C hX hN (As := [.ref (ad 32), .int 3, .int 0, .int 8, .int 0, .int 0]) (rest := []) (c_L_act_delete_th2 hfl q7) (cw_L_masters_L_act_th C) rfl (Nat.le_of_ble_eq_true rfl) dL_masters_675 ⟨by show _ ≤ 939; omega, by show _ ≤ 6726; omega⟩) ?_
  refine x_bipush C (v := (-73)) dL_masters_678 (by decide) ?_
  refine x_icmp_ne C (t := 694) dL_masters_680 (by decide) (fun c9 => absurd c9 (by decide)) (fun _ => ?_)
  refine x_aload_n C 0 dL_masters_683 rfl ?_
  refine x_bipush C (v := 8) dL_masters_684 (by decide) ?_
  have q8 : X5_timeOf S2 8 = some (0, 6) := w_timeOf (p := 8) (z := 6) h2 (by decide +kernel)
  refine x_ci0 (x_runV C (As := [.int 8]) (rest := []) (c_X5_timeOf_ok q8) (cw_L_masters_X5_timeOf C) 32 rfl rfl rfl (Nat.le_of_ble_eq_true rfl) dL_masters_686 ⟨by show _ ≤ 939; omega, by show _ ≤ 6726; omega⟩) ?_
  refine x_bipush C (v := 6) dL_masters_689 (by decide) ?_
  refine x_icmp_eq C (t := 696) dL_masters_691 (by decide) (fun _ => ?_) (fun c9 => absurd c9 (by decide))
  refine x_aload_n C 0 dL_masters_696 rfl ?_
  refine x_iconst C (v := 0) dL_masters_697 (by decide) ?_
  refine x_iconst C (v := 2) dL_masters_698 (by decide) ?_
  refine x_iconst C (v := 1) dL_masters_699 (by decide) ?_
  refine x_iconst C (v := 0) dL_masters_700 (by decide) ?_
  obtain ⟨S3, f3, g3⟩ := w_add0 (t := 7) (p := 2) (l := 1) (i := 0) (z := 11) (L9 := [0, 1, 2, 3, 4, 5, 6, 7, 8, 9]) h2 (by decide +kernel)
  have e3 : X5_add S2 0 2 1 0 = some (0, 11, S3) := f3
  have h3 : CS S3 mv19 := g3
  refine x_ci0 (x_runV C (As := [.int 0, .int 2, .int 1, .int 0]) (rest := []) (c_X5_add_ok e3) (cw_L_masters_X5_add C) 32 rfl rfl rfl (Nat.le_of_ble_eq_true rfl) dL_masters_701 ⟨by show _ ≤ 939; omega, by show _ ≤ 6726; omega⟩) ?_
  refine x_bipush C (v := 11) dL_masters_704 (by decide) ?_
  refine x_icmp_ne C (t := 914) dL_masters_706 (by decide) (fun c9 => absurd c9 (by decide)) (fun _ => ?_)
  exact x_widen (by omega) (by omega) (K _ h3)
set_option maxHeartbeats 4000000 in
set_option maxRecDepth 100000 in
theorem mvs7 {p : Program} {l : Launch} {e : Env} {s : State} {m : MethodId} {args : Array Value} {below : List Frame} {meth : Method} {c : Code} {D : va_G} {cI cZ cJ : ClassId} {ad : Nat → Nat} {S0 : St} {rest w0 : va_W} {Q : State → Prop} {kk jj : Nat} (hfl : l.stackTraces = false) (C : XC p rm_L_masters s m args meth c cL_masters 1 (some .boolean) RL wsL_masters D (t3 cI cZ cJ)) (hX : XS (va_A w0 s.heap.size) s s.heap) (hN : NC s) (h0 : CS S0 mv19) (hk : kk + 0 ≤ 939) (hj : jj + 0 ≤ 6726) (K : ∀ S', CS S' mv22 → XW p l e rm_L_masters s m args below meth c D w0 1 Q (wE cI cZ ad S' (eo ad (ad 0) (ad 7) rest)) kk jj 750 [(0, .ref (ad 32))] []) : XW p l e rm_L_masters s m args below meth c D w0 1 Q (wE cI cZ ad S0 (eo ad (ad 0) (ad 7) rest)) kk jj 709 [(0, .ref (ad 32))] [] := by
  refine x_aload_n C 0 dL_masters_709 rfl ?_
  refine x_iconst C (v := 0) dL_masters_710 (by decide) ?_
  refine x_iconst C (v := 2) dL_masters_711 (by decide) ?_
  refine x_bipush C (v := 52) dL_masters_712 (by decide) ?_
  refine x_iconst C (v := 0) dL_masters_714 (by decide) ?_
  obtain ⟨S1, f1, g1⟩ := w_add0 (t := 8) (p := 2) (l := 52) (i := 0) (z := 12) (L9 := [0, 1, 2, 3, 4, 5, 6, 7, 8, 9, 10]) h0 (by decide +kernel)
  have e1 : X5_add S0 0 2 52 0 = some (0, 12, S1) := f1
  have h1 : CS S1 mv20 := g1
  refine x_ci0 (x_runV C (As := [.int 0, .int 2, .int 52, .int 0]) (rest := []) (c_X5_add_ok e1) (cw_L_masters_X5_add C) 32 rfl rfl rfl (Nat.le_of_ble_eq_true rfl) dL_masters_715 ⟨by show _ ≤ 939; omega, by show _ ≤ 6726; omega⟩) ?_
  refine x_bipush C (v := 12) dL_masters_718 (by decide) ?_
  refine x_icmp_ne C (t := 914) dL_masters_720 (by decide) (fun c9 => absurd c9 (by decide)) (fun _ => ?_)
  refine x_aload_n C 0 dL_masters_723 rfl ?_
  refine x_iconst C (v := 0) dL_masters_724 (by decide) ?_
  refine x_bipush C (v := 11) dL_masters_725 (by decide) ?_
  refine x_iconst C (v := 3) dL_masters_727 (by decide) ?_
  refine x_iconst C (v := 4) dL_masters_728 (by decide) ?_
  obtain ⟨S2, f2, g2⟩ := w_set0 (t := 9) (p := 11) (w := 3) (o := (some 4)) (v := (-1)) (L9 := [0, 1, 2, 3, 4, 5, 6, 7, 8, 9, 10, 11]) h1 (by decide +kernel)
  have e2 : X5_set S1 0 11 3 4 = some (0, (-1), S2) := f2
  have h2 : CS S2 mv21 := g2
  refine x_ci0 (x_runV C (As := [.int 0, .int 11, .int 3, .int 4]) (rest := []) (c_X5_set_ok e2) (cw_L_masters_X5_set C) 32 rfl rfl rfl (Nat.le_of_ble_eq_true rfl) dL_masters_729 ⟨by show _ ≤ 939; omega, by show _ ≤ 6726; omega⟩) ?_
  refine x_iconst C (v := (-1)) dL_masters_732 (by decide) ?_
  refine x_icmp_ne C (t := 914) dL_masters_733 (by decide) (fun c9 => absurd c9 (by decide)) (fun _ => ?_)
  refine x_aload_n C 0 dL_masters_736 rfl ?_
  refine x_iconst C (v := 0) dL_masters_737 (by decide) ?_
  refine x_bipush C (v := 11) dL_masters_738 (by decide) ?_
  refine x_iconst C (v := 3) dL_masters_740 (by decide) ?_
  refine x_bipush C (v := 9) dL_masters_741 (by decide) ?_
  obtain ⟨S3, f3, g3⟩ := w_set0 (t := 10) (p := 11) (w := 3) (o := (some 9)) (v := 4) (L9 := [0, 1, 2, 3, 4, 5, 6, 7, 8, 9, 10, 11, 12]) h2 (by decide +kernel)
  have e3 : X5_set S2 0 11 3 9 = some (0, 4, S3) := f3
  have h3 : CS S3 mv22 := g3
  refine x_ci0 (x_runV C (As := [.int 0, .int 11, .int 3, .int 9]) (rest := []) (c_X5_set_ok e3) (cw_L_masters_X5_set C) 32 rfl rfl rfl (Nat.le_of_ble_eq_true rfl) dL_masters_743 ⟨by show _ ≤ 939; omega, by show _ ≤ 6726; omega⟩) ?_
  refine x_iconst C (v := 4) dL_masters_746 (by decide) ?_
  refine x_icmp_ne C (t := 914) dL_masters_747 (by decide) (fun c9 => absurd c9 (by decide)) (fun _ => ?_)
  exact x_widen (by omega) (by omega) (K _ h3)
set_option maxHeartbeats 4000000 in
set_option maxRecDepth 100000 in
theorem mvs8 {p : Program} {l : Launch} {e : Env} {s : State} {m : MethodId} {args : Array Value} {below : List Frame} {meth : Method} {c : Code} {D : va_G} {cI cZ cJ : ClassId} {ad : Nat → Nat} {S0 : St} {rest w0 : va_W} {Q : State → Prop} {kk jj : Nat} (hfl : l.stackTraces = false) (C : XC p rm_L_masters s m args meth c cL_masters 1 (some .boolean) RL wsL_masters D (t3 cI cZ cJ)) (hX : XS (va_A w0 s.heap.size) s s.heap) (hN : NC s) (h0 : CS S0 mv22) (hk : kk + 1 ≤ 939) (hj : jj + 6 ≤ 6726) (K : ∀ S', CS S' mv25 → XW p l e rm_L_masters s m args below meth c D w0 1 Q (wE cI cZ ad S' (eo ad (ad 0) (ad 7) rest)) (kk + 1) (jj + 6) 821 [(0, .ref (ad 32))] []) : XW p l e rm_L_masters s m args below meth c D w0 1 Q (wE cI cZ ad S0 (eo ad (ad 0) (ad 7) rest)) kk jj 750 [(0, .ref (ad 32))] [] := by
  refine x_aload_n C 0 dL_masters_750 rfl ?_
  refine x_iconst C (v := 0) dL_masters_751 (by decide) ?_
  refine x_bipush C (v := 11) dL_masters_752 (by decide) ?_
  refine x_iconst C (v := 3) dL_masters_754 (by decide) ?_
  have q1 : X5_value S0 0 11 3 = some (0, 9) := w_value0 (p := 11) (w := 3) (o := (some 9)) h0 (by decide +kernel)
  refine x_ci0 (x_runV C (As := [.int 0, .int 11, .int 3]) (rest := []) (c_X5_value_ok q1) (cw_L_masters_X5_value C) 32 rfl rfl rfl (Nat.le_of_ble_eq_true rfl) dL_masters_755 ⟨by show _ ≤ 939; omega, by show _ ≤ 6726; omega⟩) ?_
  refine x_bipush C (v := 9) dL_masters_758 (by decide) ?_
  refine x_icmp_ne C (t := 914) dL_masters_760 (by decide) (fun c9 => absurd c9 (by decide)) (fun _ => ?_)
  refine x_aload_n C 0 dL_masters_763 rfl ?_
  refine x_iconst C (v := 0) dL_masters_764 (by decide) ?_
  refine x_bipush C (v := 7) dL_masters_765 (by decide) ?_
  refine x_iconst C (v := 0) dL_masters_767 (by decide) ?_
  refine x_bipush C (v := 77) dL_masters_768 (by decide) ?_
  obtain ⟨S1, f1, g1⟩ := w_move0 (t := 11) (p := 7) (q := 0) (l := 77) (z := 1) (L9 := [0, 1, 2, 3, 4, 5, 6, 7, 8, 9, 10, 11, 12, 13]) h0 (by decide +kernel)
  have e1 : X5_move S0 0 7 0 77 = some (0, 1, S1) := f1
  have h1 : CS S1 mv23 := g1
  refine x_ci0 (x_runV C (As := [.int 0, .int 7, .int 0, .int 77]) (rest := []) (c_X5_move_ok e1) (cw_L_masters_X5_move C) 32 rfl rfl rfl (Nat.le_of_ble_eq_true rfl) dL_masters_770 ⟨by show _ ≤ 939; omega, by show _ ≤ 6726; omega⟩) ?_
  refine x_iconst C (v := 1) dL_masters_773 (by decide) ?_
  refine x_icmp_ne C (t := 914) dL_masters_774 (by decide) (fun c9 => absurd c9 (by decide)) (fun _ => ?_)
  refine x_aload_n C 0 dL_masters_777 rfl ?_
  refine x_iconst C (v := 0) dL_masters_778 (by decide) ?_
  refine x_bipush C (v := 7) dL_masters_779 (by decide) ?_
  refine x_iconst C (v := 1) dL_masters_781 (by decide) ?_
  refine x_iconst C (v := 2) dL_masters_782 (by decide) ?_
  obtain ⟨S2, f2, g2⟩ := w_move0 (t := 12) (p := 7) (q := 1) (l := 2) (z := 0) (L9 := [0, 1, 2, 3, 4, 5, 6, 7, 8, 9, 10, 11, 12, 13, 14]) h1 (by decide +kernel)
  have e2 : X5_move S1 0 7 1 2 = some (0, 0, S2) := f2
  have h2 : CS S2 mv24 := g2
  refine x_ci0 (x_runV C (As := [.int 0, .int 7, .int 1, .int 2]) (rest := []) (c_X5_move_ok e2) (cw_L_masters_X5_move C) 32 rfl rfl rfl (Nat.le_of_ble_eq_true rfl) dL_masters_783 ⟨by show _ ≤ 939; omega, by show _ ≤ 6726; omega⟩) ?_
  refine x_if_ne C (t := 914) dL_masters_786 (by decide) (fun c9 => absurd c9 (by decide)) (fun _ => ?_)
  refine x_aload_n C 0 dL_masters_789 rfl ?_
  have q2 : X5_areAlike S2 = some 0 := w_alike_f (k := 11) h2 (by decide +kernel)
  refine x_ci0 (x_runV C (As := []) (rest := []) (c_X5_areAlike q2) (cw_L_masters_X5_areAlike C) 32 rfl rfl rfl (Nat.le_of_ble_eq_true rfl) dL_masters_790 ⟨by show _ ≤ 939; omega, by show _ ≤ 6726; omega⟩) ?_
  refine x_if_ne C (t := 914) dL_masters_793 (by decide) (fun c9 => absurd c9 (by decide)) (fun _ => ?_)
  refine x_aload_n C 0 dL_masters_796 rfl ?_
  refine x_iconst C (v := 3) dL_masters_797 (by decide) ?_
  refine x_iconst C (v := 0) dL_masters_798 (by decide) ?_
  refine x_iconst C (v := 2) dL_masters_799 (by decide) ?_
  refine x_iconst C (v := 0) dL_masters_800 (by decide) ?_
  refine x_iconst C (v := 0) dL_masters_801 (by decide) ?_
  have q3 : X5_delete S2 0 2 = some (3, 0, S2) := w_delete_kid (p := 2) (z := 11) h2 (by decide +kernel)
  refine x_ci (mc := 1) (ms := 6) (x_runSW C hX hN (As := [.ref (ad 32), .int 3, .int 0, .int 2, .int 0, .int 0]) (rest := []) (c_L_act_delete_th2 hfl q3) (cw_L_masters_L_act_th C) rfl (Nat.le_of_ble_eq_true rfl) dL_masters_802 ⟨by show _ ≤ 939; omega, by show _ ≤ 6726; omega⟩) ?_
  refine x_bipush C (v := (-73)) dL_masters_805 (by decide) ?_
  refine x_icmp_ne C (t := 914) dL_masters_807 (by decide) (fun c9 => absurd c9 (by decide)) (fun _ => ?_)
  refine x_aload_n C 0 dL_masters_810 rfl ?_
  refine x_iconst C (v := 1) dL_masters_811 (by decide) ?_
  refine x_iconst C (v := 2) dL_masters_812 (by decide) ?_
  obtain ⟨S3, f3, g3⟩ := w_delete1 (t := 7) (p := 2) (z := 6) (L9 := [0, 1, 2, 3, 4, 5, 6, 7, 8, 15]) h2 (by decide +kernel)
  have e3 : X5_delete S2 1 2 = some (0, 6, S3) := f3
  have h3 : CS S3 mv25 := g3
  refine x_ci0 (x_runV C (As := [.int 1, .int 2]) (rest := []) (c_X5_delete_ok e3) (cw_L_masters_X5_delete C) 32 rfl rfl rfl (Nat.le_of_ble_eq_true rfl) dL_masters_813 ⟨by show _ ≤ 939; omega, by show _ ≤ 6726; omega⟩) ?_
  refine x_bipush C (v := 6) dL_masters_816 (by decide) ?_
  refine x_icmp_ne C (t := 914) dL_masters_818 (by decide) (fun c9 => absurd c9 (by decide)) (fun _ => ?_)
  exact x_widen (by omega) (by omega) (K _ h3)
set_option maxHeartbeats 4000000 in
set_option maxRecDepth 100000 in
theorem mvs9 {p : Program} {l : Launch} {e : Env} {s : State} {m : MethodId} {args : Array Value} {below : List Frame} {meth : Method} {c : Code} {D : va_G} {cI cZ cJ : ClassId} {ad : Nat → Nat} {S0 : St} {rest w0 : va_W} {Q : State → Prop} {kk jj : Nat} (hfl : l.stackTraces = false) (C : XC p rm_L_masters s m args meth c cL_masters 1 (some .boolean) RL wsL_masters D (t3 cI cZ cJ)) (hX : XS (va_A w0 s.heap.size) s s.heap) (hN : NC s) (h0 : CS S0 mv25) (hk : kk + 225 ≤ 939) (hj : jj + 1350 ≤ 6726) (K : ∀ S', CS S' mv26 → XW p l e rm_L_masters s m args below meth c D w0 1 Q (wE cI cZ ad S' (eo ad (ad 0) (ad 7) rest)) (kk + 225) (jj + 1350) 915 [(0, .ref (ad 32))] [.int 1]) : XW p l e rm_L_masters s m args below meth c D w0 1 Q (wE cI cZ ad S0 (eo ad (ad 0) (ad 7) rest)) kk jj 821 [(0, .ref (ad 32))] [] := by
  refine x_aload_n C 0 dL_masters_821 rfl ?_
  refine x_bipush C (v := 15) dL_masters_822 (by decide) ?_
  have q1 : X5_timeOf S0 15 = some (0, 7) := w_timeOf (p := 15) (z := 7) h0 (by decide +kernel)
  refine x_ci0 (x_runV C (As := [.int 15]) (rest := []) (c_X5_timeOf_ok q1) (cw_L_masters_X5_timeOf C) 32 rfl rfl rfl (Nat.le_of_ble_eq_true rfl) dL_masters_824 ⟨by show _ ≤ 939; omega, by show _ ≤ 6726; omega⟩) ?_
  refine x_bipush C (v := 7) dL_masters_827 (by decide) ?_
  refine x_icmp_ne C (t := 914) dL_masters_829 (by decide) (fun c9 => absurd c9 (by decide)) (fun _ => ?_)
  refine x_aload_n C 0 dL_masters_832 rfl ?_
  refine x_bipush C (v := 15) dL_masters_833 (by decide) ?_
  refine x_iconst C (v := 0) dL_masters_835 (by decide) ?_
  obtain ⟨S1, f1, g1⟩ := w_carry0 (p := 15) (L9 := [0, 1, 2, 3, 4, 5, 6, 7, 8, 9, 15, 10, 11, 12, 13, 14]) h0 (by decide +kernel)
  have e1 : X5_carry S0 15 0 = some (0, 1, S1) := f1
  have h1 : CS S1 mv26 := g1
  refine x_ci0 (x_runV C (As := [.int 15, .int 0]) (rest := []) (c_X5_carry_ok e1) (cw_L_masters_X5_carry C) 32 rfl rfl rfl (Nat.le_of_ble_eq_true rfl) dL_masters_836 ⟨by show _ ≤ 939; omega, by show _ ≤ 6726; omega⟩) ?_
  refine x_if_eq C (t := 914) dL_masters_839 (by decide) (fun c9 => absurd c9 (by decide)) (fun _ => ?_)
  refine x_aload_n C 0 dL_masters_842 rfl ?_
  refine x_iconst C (v := 0) dL_masters_843 (by decide) ?_
  refine x_iconst C (v := 2) dL_masters_844 (by decide) ?_
  have q2 : X5_isThere S1 0 2 = some (0, 0) := w_there0 (p := 2) (b := false) h1 (by decide +kernel)
  refine x_ci0 (x_runV C (As := [.int 0, .int 2]) (rest := []) (c_X5_isThere_ok q2) (cw_L_masters_X5_isThere C) 32 rfl rfl rfl (Nat.le_of_ble_eq_true rfl) dL_masters_845 ⟨by show _ ≤ 939; omega, by show _ ≤ 6726; omega⟩) ?_
  refine x_if_ne C (t := 914) dL_masters_848 (by decide) (fun c9 => absurd c9 (by decide)) (fun _ => ?_)
  refine x_aload_n C 0 dL_masters_851 rfl ?_
  refine x_iconst C (v := 0) dL_masters_852 (by decide) ?_
  refine x_bipush C (v := 11) dL_masters_853 (by decide) ?_
  refine x_iconst C (v := 1) dL_masters_855 (by decide) ?_
  refine x_iconst C (v := (-1)) dL_masters_856 (by decide) ?_
  obtain ⟨u3, v3, w3⟩ := w_at0 (p := 11) (v := 1) (o := none) h1 (by decide +kernel)
  have x3 : X5_isThere S1 0 11 = some (0, 1) := u3
  have y3 : X5_parentOf S1 0 11 = some (0, 1) := v3
  have z3 : X5_labelOf S1 0 11 = some (0, (-1)) := w3
  refine x_ci0 (x_runS C (As := [.ref (ad 32), .int 0, .int 11, .int 1, .int (-1)]) (rest := []) (c_L_at x3 y3 z3) (cw_L_masters_L_at C) rfl (Nat.le_of_ble_eq_true rfl) dL_masters_857 ⟨by show _ ≤ 939; omega, by show _ ≤ 6726; omega⟩) ?_
  refine x_if_eq C (t := 914) dL_masters_860 (by decide) (fun c9 => absurd c9 (by decide)) (fun _ => ?_)
  refine x_aload_n C 0 dL_masters_863 rfl ?_
  refine x_iconst C (v := 0) dL_masters_864 (by decide) ?_
  refine x_bipush C (v := 12) dL_masters_865 (by decide) ?_
  refine x_iconst C (v := 1) dL_masters_867 (by decide) ?_
  refine x_bipush C (v := 52) dL_masters_868 (by decide) ?_
  obtain ⟨u4, v4, w4⟩ := w_at0 (p := 12) (v := 1) (o := (some 52)) h1 (by decide +kernel)
  have x4 : X5_isThere S1 0 12 = some (0, 1) := u4
  have y4 : X5_parentOf S1 0 12 = some (0, 1) := v4
  have z4 : X5_labelOf S1 0 12 = some (0, 52) := w4
  refine x_ci0 (x_runS C (As := [.ref (ad 32), .int 0, .int 12, .int 1, .int 52]) (rest := []) (c_L_at x4 y4 z4) (cw_L_masters_L_at C) rfl (Nat.le_of_ble_eq_true rfl) dL_masters_870 ⟨by show _ ≤ 939; omega, by show _ ≤ 6726; omega⟩) ?_
  refine x_if_eq C (t := 914) dL_masters_873 (by decide) (fun c9 => absurd c9 (by decide)) (fun _ => ?_)
  refine x_aload_n C 0 dL_masters_876 rfl ?_
  refine x_iconst C (v := 0) dL_masters_877 (by decide) ?_
  refine x_bipush C (v := 7) dL_masters_878 (by decide) ?_
  refine x_iconst C (v := 1) dL_masters_880 (by decide) ?_
  refine x_iconst C (v := (-1)) dL_masters_881 (by decide) ?_
  obtain ⟨u5, v5, w5⟩ := w_at0 (p := 7) (v := 1) (o := none) h1 (by decide +kernel)
  have x5 : X5_isThere S1 0 7 = some (0, 1) := u5
  have y5 : X5_parentOf S1 0 7 = some (0, 1) := v5
  have z5 : X5_labelOf S1 0 7 = some (0, (-1)) := w5
  refine x_ci0 (x_runS C (As := [.ref (ad 32), .int 0, .int 7, .int 1, .int (-1)]) (rest := []) (c_L_at x5 y5 z5) (cw_L_masters_L_at C) rfl (Nat.le_of_ble_eq_true rfl) dL_masters_882 ⟨by show _ ≤ 939; omega, by show _ ≤ 6726; omega⟩) ?_
  refine x_if_eq C (t := 914) dL_masters_885 (by decide) (fun c9 => absurd c9 (by decide)) (fun _ => ?_)
  refine x_aload_n C 0 dL_masters_888 rfl ?_
  refine x_iconst C (v := 0) dL_masters_889 (by decide) ?_
  refine x_bipush C (v := 11) dL_masters_890 (by decide) ?_
  refine x_iconst C (v := 3) dL_masters_892 (by decide) ?_
  have q6 : X5_value S1 0 11 3 = some (0, 9) := w_value0 (p := 11) (w := 3) (o := (some 9)) h1 (by decide +kernel)
  refine x_ci0 (x_runV C (As := [.int 0, .int 11, .int 3]) (rest := []) (c_X5_value_ok q6) (cw_L_masters_X5_value C) 32 rfl rfl rfl (Nat.le_of_ble_eq_true rfl) dL_masters_893 ⟨by show _ ≤ 939; omega, by show _ ≤ 6726; omega⟩) ?_
  refine x_bipush C (v := 9) dL_masters_896 (by decide) ?_
  refine x_icmp_ne C (t := 914) dL_masters_898 (by decide) (fun c9 => absurd c9 (by decide)) (fun _ => ?_)
  refine x_aload_n C 0 dL_masters_901 rfl ?_
  refine x_iconst C (v := 0) dL_masters_902 (by decide) ?_
  refine x_iconst C (v := 2) dL_masters_903 (by decide) ?_
  have r7 : RFS S1 16 0 2 := w_rfs (p := 2) (z := 16) (k := 0) h1 (by decide +kernel)
  refine x_ci (mc := 225) (ms := 1350) (x_runSY C hX hN (As := [.ref (ad 32), .int (nI 0), .int (nI 2)]) (rest := []) (c_L_refuses hfl r7) (cw_L_masters_L_refuses C) rfl (Nat.le_of_ble_eq_true rfl) dL_masters_904 ⟨by show _ ≤ 939; omega, by show _ ≤ 6726; omega⟩) ?_
  refine x_if_eq C (t := 914) dL_masters_907 (by decide) (fun c9 => absurd c9 (by decide)) (fun _ => ?_)
  refine x_iconst C (v := 1) dL_masters_910 (by decide) ?_
  refine x_goto C (t := 915) dL_masters_911 (by decide) ?_
  exact x_widen (by omega) (by omega) (K _ h1)
