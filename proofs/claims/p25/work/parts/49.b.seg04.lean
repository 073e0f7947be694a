set_option maxHeartbeats 4000000 in
set_option maxRecDepth 100000 in
theorem svs24 {p : Program} {l : Launch} {e : Env} {s : State} {m : MethodId} {args : Array Value} {below : List Frame} {meth : Method} {c : Code} {D : va_G} {cI cZ cJ : ClassId} {ad : Nat → Nat} {S0 : St} {rest w0 : va_W} {Q : State → Prop} {kk jj : Nat} (hfl : l.stackTraces = false) (C : XC p rm_L_searches s m args meth c cL_searches 2 (some .boolean) RL wsL_searches D (t3 cI cZ cJ)) (hX : XS (va_A w0 s.heap.size) s s.heap) (hN : NC s) (h0 : CS S0 sv26) (hk : kk + 0 ≤ 487) (hj : jj + 0 ≤ 4014) (K : ∀ S', CS S' sv29 → XW p l e rm_L_searches s m args below meth c D w0 2 Q (wE cI cZ ad S' (eo ad (ad 0) (ad 7) rest)) kk jj 795 [(0, .ref (ad 32)), (1, .int 12)] []) : XW p l e rm_L_searches s m args below meth c D w0 2 Q (wE cI cZ ad S0 (eo ad (ad 0) (ad 7) rest)) kk jj 795 [(0, .ref (ad 32)), (1, .int 9)] [] := by
  refine x_iinc C 1 (v := 10) (lv' := [(0, .ref (ad 32)), (1, .int 10)]) dL_searches_795 rfl (by decide) (by decide) rfl ?_
  refine x_goto C (t := 744) dL_searches_798 (by decide) ?_
  refine x_iload_n C 1 dL_searches_744 rfl ?_
  refine x_bipush C (v := 21) dL_searches_745 (by decide) ?_
  refine x_icmp_ge C (t := 801) dL_searches_747 (by decide) (fun c9 => absurd c9 (by decide)) (fun _ => ?_)
  refine x_aload_n C 0 dL_searches_750 rfl ?_
  refine x_bipush C (v := 13) dL_searches_751 (by decide) ?_
  refine x_iload_n C 1 dL_searches_753 rfl ?_
  refine x_iconst C (v := 2) dL_searches_754 (by decide) ?_
  refine x_irem C dL_searches_755 (by decide) ?_
  refine x_topi (v' := 0) (by decide) ?_
  refine x_iadd C dL_searches_756 ?_
  refine x_topi (v' := 13) (by decide) ?_
  refine x_iload_n C 1 dL_searches_757 rfl ?_
  refine x_iconst C (v := 3) dL_searches_758 (by decide) ?_
  refine x_irem C dL_searches_759 (by decide) ?_
  refine x_topi (v' := 1) (by decide) ?_
  refine x_iload_n C 1 dL_searches_760 rfl ?_
  refine x_iconst C (v := 2) dL_searches_761 (by decide) ?_
  refine x_irem C dL_searches_762 (by decide) ?_
  refine x_topi (v' := 0) (by decide) ?_
  refine x_if_ne C (t := 770) dL_searches_763 (by decide) (fun c9 => absurd c9 (by decide)) (fun _ => ?_)
  refine x_iconst C (v := 0) dL_searches_766 (by decide) ?_
  refine x_goto C (t := 773) dL_searches_767 (by decide) ?_
  refine x_iconst C (v := 0) dL_searches_773 (by decide) ?_
  refine x_iconst C (v := 0) dL_searches_774 (by decide) ?_
  obtain ⟨S1, f1, g1⟩ := w_test (k := 1) (a := 0) (b' := 0) (z := 10) h0 (by decide +kernel)
  have e1 : X5_test S0 1 0 0 = some (0, 10, S1) := f1
  have h1 : CS S1 sv27 := g1
  refine x_ci (mc := 0) (ms := 0) (x_runSW C hX hN (As := [.ref (ad 32), .int 13, .int 1, .int 0, .int 0, .int 0]) (rest := []) (c_L_act_test_ok hfl e1) (cw_L_searches_L_act_ok C) rfl (Nat.le_of_ble_eq_true rfl) dL_searches_775 ⟨by show _ ≤ 487; omega, by show _ ≤ 4014; omega⟩) ?_
  refine x_iload_n C 1 dL_searches_778 rfl ?_
  refine x_bipush C (v := 20) dL_searches_779 (by decide) ?_
  refine x_icmp_ge C (t := 788) dL_searches_781 (by decide) (fun c9 => absurd c9 (by decide)) (fun _ => ?_)
  refine x_iload_n C 1 dL_searches_784 rfl ?_
  refine x_goto C (t := 790) dL_searches_785 (by decide) ?_
  refine x_icmp_eq C (t := 795) dL_searches_790 (by decide) (fun _ => ?_) (fun c9 => absurd c9 (by decide))
  refine x_iinc C 1 (v := 11) (lv' := [(0, .ref (ad 32)), (1, .int 11)]) dL_searches_795 rfl (by decide) (by decide) rfl ?_
  refine x_goto C (t := 744) dL_searches_798 (by decide) ?_
  refine x_iload_n C 1 dL_searches_744 rfl ?_
  refine x_bipush C (v := 21) dL_searches_745 (by decide) ?_
  refine x_icmp_ge C (t := 801) dL_searches_747 (by decide) (fun c9 => absurd c9 (by decide)) (fun _ => ?_)
  refine x_aload_n C 0 dL_searches_750 rfl ?_
  refine x_bipush C (v := 13) dL_searches_751 (by decide) ?_
  refine x_iload_n C 1 dL_searches_753 rfl ?_
  refine x_iconst C (v := 2) dL_searches_754 (by decide) ?_
  refine x_irem C dL_searches_755 (by decide) ?_
  refine x_topi (v' := 1) (by decide) ?_
  refine x_iadd C dL_searches_756 ?_
  refine x_topi (v' := 14) (by decide) ?_
  refine x_iload_n C 1 dL_searches_757 rfl ?_
  refine x_iconst C (v := 3) dL_searches_758 (by decide) ?_
  refine x_irem C dL_searches_759 (by decide) ?_
  refine x_topi (v' := 2) (by decide) ?_
  refine x_iload_n C 1 dL_searches_760 rfl ?_
  refine x_iconst C (v := 2) dL_searches_761 (by decide) ?_
  refine x_irem C dL_searches_762 (by decide) ?_
  refine x_topi (v' := 1) (by decide) ?_
  refine x_if_ne C (t := 770) dL_searches_763 (by decide) (fun _ => ?_) (fun c9 => absurd c9 (by decide))
  refine x_iload_n C 1 dL_searches_770 rfl ?_
  refine x_iconst C (v := 1) dL_searches_771 (by decide) ?_
  refine x_isub C dL_searches_772 ?_
  refine x_topi (v' := 10) (by decide) ?_
  refine x_iconst C (v := 0) dL_searches_773 (by decide) ?_
  refine x_iconst C (v := 0) dL_searches_774 (by decide) ?_
  obtain ⟨S2, f2, g2⟩ := w_join (k := 2) (a := 10) (b' := 0) (z := 11) h1 (by decide +kernel)
  have e2 : X5_join S1 2 10 0 = some (0, 11, S2) := f2
  have h2 : CS S2 sv28 := g2
  refine x_ci (mc := 0) (ms := 0) (x_runSW C hX hN (As := [.ref (ad 32), .int 14, .int 2, .int 10, .int 0, .int 0]) (rest := []) (c_L_act_join_ok hfl e2) (cw_L_searches_L_act_ok C) rfl (Nat.le_of_ble_eq_true rfl) dL_searches_775 ⟨by show _ ≤ 487; omega, by show _ ≤ 4014; omega⟩) ?_
  refine x_iload_n C 1 dL_searches_778 rfl ?_
  refine x_bipush C (v := 20) dL_searches_779 (by decide) ?_
  refine x_icmp_ge C (t := 788) dL_searches_781 (by decide) (fun c9 => absurd c9 (by decide)) (fun _ => ?_)
  refine x_iload_n C 1 dL_searches_784 rfl ?_
  refine x_goto C (t := 790) dL_searches_785 (by decide) ?_
  refine x_icmp_eq C (t := 795) dL_searches_790 (by decide) (fun _ => ?_) (fun c9 => absurd c9 (by decide))
  refine x_iinc C 1 (v := 12) (lv' := [(0, .ref (ad 32)), (1, .int 12)]) dL_searches_795 rfl (by decide) (by decide) rfl ?_
  refine x_goto C (t := 744) dL_searches_798 (by decide) ?_
  refine x_iload_n C 1 dL_searches_744 rfl ?_
  refine x_bipush C (v := 21) dL_searches_745 (by decide) ?_
  refine x_icmp_ge C (t := 801) dL_searches_747 (by decide) (fun c9 => absurd c9 (by decide)) (fun _ => ?_)
  refine x_aload_n C 0 dL_searches_750 rfl ?_
  refine x_bipush C (v := 13) dL_searches_751 (by decide) ?_
  refine x_iload_n C 1 dL_searches_753 rfl ?_
  refine x_iconst C (v := 2) dL_searches_754 (by decide) ?_
  refine x_irem C dL_searches_755 (by decide) ?_
  refine x_topi (v' := 0) (by decide) ?_
  refine x_iadd C dL_searches_756 ?_
  refine x_topi (v' := 13) (by decide) ?_
  refine x_iload_n C 1 dL_searches_757 rfl ?_
  refine x_iconst C (v := 3) dL_searches_758 (by decide) ?_
  refine x_irem C dL_searches_759 (by decide) ?_
  refine x_topi (v' := 0) (by decide) ?_
  refine x_iload_n C 1 dL_searches_760 rfl ?_
  refine x_iconst C (v := 2) dL_searches_761 (by decide) ?_
  refine x_irem C dL_searches_762 (by decide) ?_
  refine x_topi (v' := 0) (by decide) ?_
  refine x_if_ne C (t := 770) dL_searches_763 (by decide) (fun c9 => absurd c9 (by decide)) (fun _ => ?_)
  refine x_iconst C (v := 0) dL_searches_766 (by decide) ?_
  refine x_goto C (t := 773) dL_searches_767 (by decide) ?_
  refine x_iconst C (v := 0) dL_searches_773 (by decide) ?_
  refine x_iconst C (v := 0) dL_searches_774 (by decide) ?_
  obtain ⟨S3, f3, g3⟩ := w_test (k := 0) (a := 0) (b' := 0) (z := 12) h2 (by decide +kernel)
  have e3 : X5_test S2 0 0 0 = some (0, 12, S3) := f3
  have h3 : CS S3 sv29 := g3
  refine x_ci (mc := 0) (ms := 0) (x_runSW C hX hN (As := [.ref (ad 32), .int 13, .int 0, .int 0, .int 0, .int 0]) (rest := []) (c_L_act_test_ok hfl e3) (cw_L_searches_L_act_ok C) rfl (Nat.le_of_ble_eq_true rfl) dL_searches_775 ⟨by show _ ≤ 487; omega, by show _ ≤ 4014; omega⟩) ?_
  refine x_iload_n C 1 dL_searches_778 rfl ?_
  refine x_bipush C (v := 20) dL_searches_779 (by decide) ?_
  refine x_icmp_ge C (t := 788) dL_searches_781 (by decide) (fun c9 => absurd c9 (by decide)) (fun _ => ?_)
  refine x_iload_n C 1 dL_searches_784 rfl ?_
  refine x_goto C (t := 790) dL_searches_785 (by decide) ?_
  refine x_icmp_eq C (t := 795) dL_searches_790 (by decide) (fun _ => ?_) (fun c9 => absurd c9 (by decide))
  exact x_widen (by omega) (by omega) (K _ h3)
set_option maxHeartbeats 4000000 in
set_option maxRecDepth 100000 in
theorem svs25 {p : Program} {l : Launch} {e : Env} {s : State} {m : MethodId} {args : Array Value} {below : List Frame} {meth : Method} {c : Code} {D : va_G} {cI cZ cJ : ClassId} {ad : Nat → Nat} {S0 : St} {rest w0 : va_W} {Q : State → Prop} {kk jj : Nat} (hfl : l.stackTraces = false) (C : XC p rm_L_searches s m args meth c cL_searches 2 (some .boolean) RL wsL_searches D (t3 cI cZ cJ)) (hX : XS (va_A w0 s.heap.size) s s.heap) (hN : NC s) (h0 : CS S0 sv29) (hk : kk + 0 ≤ 487) (hj : jj + 0 ≤ 4014) (K : ∀ S', CS S' sv32 → XW p l e rm_L_searches s m args below meth c D w0 2 Q (wE cI cZ ad S' (eo ad (ad 0) (ad 7) rest)) kk jj 795 [(0, .ref (ad 32)), (1, .int 15)] []) : XW p l e rm_L_searches s m args below meth c D w0 2 Q (wE cI cZ ad S0 (eo ad (ad 0) (ad 7) rest)) kk jj 795 [(0, .ref (ad 32)), (1, .int 12)] [] := by
  refine x_iinc C 1 (v := 13) (lv' := [(0, .ref (ad 32)), (1, .int 13)]) dL_searches_795 rfl (by decide) (by decide) rfl ?_
  refine x_goto C (t := 744) dL_searches_798 (by decide) ?_
  refine x_iload_n C 1 dL_searches_744 rfl ?_
  refine x_bipush C (v := 21) dL_searches_745 (by decide) ?_
  refine x_icmp_ge C (t := 801) dL_searches_747 (by decide) (fun c9 => absurd c9 (by decide)) (fun _ => ?_)
  refine x_aload_n C 0 dL_searches_750 rfl ?_
  refine x_bipush C (v := 13) dL_searches_751 (by decide) ?_
  refine x_iload_n C 1 dL_searches_753 rfl ?_
  refine x_iconst C (v := 2) dL_searches_754 (by decide) ?_
  refine x_irem C dL_searches_755 (by decide) ?_
  refine x_topi (v' := 1) (by decide) ?_
  refine x_iadd C dL_searches_756 ?_
  refine x_topi (v' := 14) (by decide) ?_
  refine x_iload_n C 1 dL_searches_757 rfl ?_
  refine x_iconst C (v := 3) dL_searches_758 (by decide) ?_
  refine x_irem C dL_searches_759 (by decide) ?_
  refine x_topi (v' := 1) (by decide) ?_
  refine x_iload_n C 1 dL_searches_760 rfl ?_
  refine x_iconst C (v := 2) dL_searches_761 (by decide) ?_
  refine x_irem C dL_searches_762 (by decide) ?_
  refine x_topi (v' := 1) (by decide) ?_
  refine x_if_ne C (t := 770) dL_searches_763 (by decide) (fun _ => ?_) (fun c9 => absurd c9 (by decide))
  refine x_iload_n C 1 dL_searches_770 rfl ?_
  refine x_iconst C (v := 1) dL_searches_771 (by decide) ?_
  refine x_isub C dL_searches_772 ?_
  refine x_topi (v' := 12) (by decide) ?_
  refine x_iconst C (v := 0) dL_searches_773 (by decide) ?_
  refine x_iconst C (v := 0) dL_searches_774 (by decide) ?_
  obtain ⟨S1, f1, g1⟩ := w_join (k := 1) (a := 12) (b' := 0) (z := 13) h0 (by decide +kernel)
  have e1 : X5_join S0 1 12 0 = some (0, 13, S1) := f1
  have h1 : CS S1 sv30 := g1
  refine x_ci (mc := 0) (ms := 0) (x_runSW C hX hN (As := [.ref (ad 32), .int 14, .int 1, .int 12, .int 0, .int 0]) (rest := []) (c_L_act_join_ok hfl e1) (cw_L_searches_L_act_ok C) rfl (Nat.le_of_ble_eq_true rfl) dL_searches_775 ⟨by show _ ≤ 487; omega, by show _ ≤ 4014; omega⟩) ?_
  refine x_iload_n C 1 dL_searches_778 rfl ?_
  refine x_bipush C (v := 20) dL_searches_779 (by decide) ?_
  refine x_icmp_ge C (t := 788) dL_searches_781 (by decide) (fun c9 => absurd c9 (by decide)) (fun _ => ?_)
  refine x_iload_n C 1 dL_searches_784 rfl ?_
  refine x_goto C (t := 790) dL_searches_785 (by decide) ?_
  refine x_icmp_eq C (t := 795) dL_searches_790 (by decide) (fun _ => ?_) (fun c9 => absurd c9 (by decide))
  refine x_iinc C 1 (v := 14) (lv' := [(0, .ref (ad 32)), (1, .int 14)]) dL_searches_795 rfl (by decide) (by decide) rfl ?_
  refine x_goto C (t := 744) dL_searches_798 (by decide) ?_
  refine x_iload_n C 1 dL_searches_744 rfl ?_
  refine x_bipush C (v := 21) dL_searches_745 (by decide) ?_
  refine x_icmp_ge C (t := 801) dL_searches_747 (by decide) (fun c9 => absurd c9 (by decide)) (fun _ => ?_)
  refine x_aload_n C 0 dL_searches_750 rfl ?_
  refine x_bipush C (v := 13) dL_searches_751 (by decide) ?_
  refine x_iload_n C 1 dL_searches_753 rfl ?_
  refine x_iconst C (v := 2) dL_searches_754 (by decide) ?_
  refine x_irem C dL_searches_755 (by decide) ?_
  refine x_topi (v' := 0) (by decide) ?_
  refine x_iadd C dL_searches_756 ?_
  refine x_topi (v' := 13) (by decide) ?_
  refine x_iload_n C 1 dL_searches_757 rfl ?_
  refine x_iconst C (v := 3) dL_searches_758 (by decide) ?_
  refine x_irem C dL_searches_759 (by decide) ?_
  refine x_topi (v' := 2) (by decide) ?_
  refine x_iload_n C 1 dL_searches_760 rfl ?_
  refine x_iconst C (v := 2) dL_searches_761 (by decide) ?_
  refine x_irem C dL_searches_762 (by decide) ?_
  refine x_topi (v' := 0) (by decide) ?_
  refine x_if_ne C (t := 770) dL_searches_763 (by decide) (fun c9 => absurd c9 (by decide)) (fun _ => ?_)
  refine x_iconst C (v := 0) dL_searches_766 (by decide) ?_
  refine x_goto C (t := 773) dL_searches_767 (by decide) ?_
  refine x_iconst C (v := 0) dL_searches_773 (by decide) ?_
  refine x_iconst C (v := 0) dL_searches_774 (by decide) ?_
  obtain ⟨S2, f2, g2⟩ := w_test (k := 2) (a := 0) (b' := 0) (z := 14) h1 (by decide +kernel)
  have e2 : X5_test S1 2 0 0 = some (0, 14, S2) := f2
  have h2 : CS S2 sv31 := g2
  refine x_ci (mc := 0) (ms := 0) (x_runSW C hX hN (As := [.ref (ad 32), .int 13, .int 2, .int 0, .int 0, .int 0]) (rest := []) (c_L_act_test_ok hfl e2) (cw_L_searches_L_act_ok C) rfl (Nat.le_of_ble_eq_true rfl) dL_searches_775 ⟨by show _ ≤ 487; omega, by show _ ≤ 4014; omega⟩) ?_
  refine x_iload_n C 1 dL_searches_778 rfl ?_
  refine x_bipush C (v := 20) dL_searches_779 (by decide) ?_
  refine x_icmp_ge C (t := 788) dL_searches_781 (by decide) (fun c9 => absurd c9 (by decide)) (fun _ => ?_)
  refine x_iload_n C 1 dL_searches_784 rfl ?_
  refine x_goto C (t := 790) dL_searches_785 (by decide) ?_
  refine x_icmp_eq C (t := 795) dL_searches_790 (by decide) (fun _ => ?_) (fun c9 => absurd c9 (by decide))
  refine x_iinc C 1 (v := 15) (lv' := [(0, .ref (ad 32)), (1, .int 15)]) dL_searches_795 rfl (by decide) (by decide) rfl ?_
  refine x_goto C (t := 744) dL_searches_798 (by decide) ?_
  refine x_iload_n C 1 dL_searches_744 rfl ?_
  refine x_bipush C (v := 21) dL_searches_745 (by decide) ?_
  refine x_icmp_ge C (t := 801) dL_searches_747 (by decide) (fun c9 => absurd c9 (by decide)) (fun _ => ?_)
  refine x_aload_n C 0 dL_searches_750 rfl ?_
  refine x_bipush C (v := 13) dL_searches_751 (by decide) ?_
  refine x_iload_n C 1 dL_searches_753 rfl ?_
  refine x_iconst C (v := 2) dL_searches_754 (by decide) ?_
  refine x_irem C dL_searches_755 (by decide) ?_
  refine x_topi (v' := 1) (by decide) ?_
  refine x_iadd C dL_searches_756 ?_
  refine x_topi (v' := 14) (by decide) ?_
  refine x_iload_n C 1 dL_searches_757 rfl ?_
  refine x_iconst C (v := 3) dL_searches_758 (by decide) ?_
  refine x_irem C dL_searches_759 (by decide) ?_
  refine x_topi (v' := 0) (by decide) ?_
  refine x_iload_n C 1 dL_searches_760 rfl ?_
  refine x_iconst C (v := 2) dL_searches_761 (by decide) ?_
  refine x_irem C dL_searches_762 (by decide) ?_
  refine x_topi (v' := 1) (by decide) ?_
  refine x_if_ne C (t := 770) dL_searches_763 (by decide) (fun _ => ?_) (fun c9 => absurd c9 (by decide))
  refine x_iload_n C 1 dL_searches_770 rfl ?_
  refine x_iconst C (v := 1) dL_searches_771 (by decide) ?_
  refine x_isub C dL_searches_772 ?_
  refine x_topi (v' := 14) (by decide) ?_
  refine x_iconst C (v := 0) dL_searches_773 (by decide) ?_
  refine x_iconst C (v := 0) dL_searches_774 (by decide) ?_
  obtain ⟨S3, f3, g3⟩ := w_join (k := 0) (a := 14) (b' := 0) (z := 15) h2 (by decide +kernel)
  have e3 : X5_join S2 0 14 0 = some (0, 15, S3) := f3
  have h3 : CS S3 sv32 := g3
  refine x_ci (mc := 0) (ms := 0) (x_runSW C hX hN (As := [.ref (ad 32), .int 14, .int 0, .int 14, .int 0, .int 0]) (rest := []) (c_L_act_join_ok hfl e3) (cw_L_searches_L_act_ok C) rfl (Nat.le_of_ble_eq_true rfl) dL_searches_775 ⟨by show _ ≤ 487; omega, by show _ ≤ 4014; omega⟩) ?_
  refine x_iload_n C 1 dL_searches_778 rfl ?_
  refine x_bipush C (v := 20) dL_searches_779 (by decide) ?_
  refine x_icmp_ge C (t := 788) dL_searches_781 (by decide) (fun c9 => absurd c9 (by decide)) (fun _ => ?_)
  refine x_iload_n C 1 dL_searches_784 rfl ?_
  refine x_goto C (t := 790) dL_searches_785 (by decide) ?_
  refine x_icmp_eq C (t := 795) dL_searches_790 (by decide) (fun _ => ?_) (fun c9 => absurd c9 (by decide))
  exact x_widen (by omega) (by omega) (K _ h3)
set_option maxHeartbeats 4000000 in
set_option maxRecDepth 100000 in
theorem svs26 {p : Program} {l : Launch} {e : Env} {s : State} {m : MethodId} {args : Array Value} {below : List Frame} {meth : Method} {c : Code} {D : va_G} {cI cZ cJ : ClassId} {ad : Nat → Nat} {S0 : St} {rest w0 : va_W} {Q : State → Prop} {kk jj : Nat} (hfl : l.stackTraces = false) (C : XC p rm_L_searches s m args meth c cL_searches 2 (some .boolean) RL wsL_searches D (t3 cI cZ cJ)) (hX : XS (va_A w0 s.heap.size) s s.heap) (hN : NC s) (h0 : CS S0 sv32) (hk : kk + 0 ≤ 487) (hj : jj + 0 ≤ 4014) (K : ∀ S', CS S' sv35 → XW p l e rm_L_searches s m args below meth c D w0 2 Q (wE cI cZ ad S' (eo ad (ad 0) (ad 7) rest)) kk jj 795 [(0, .ref (ad 32)), (1, .int 18)] []) : XW p l e rm_L_searches s m args below meth c D w0 2 Q (wE cI cZ ad S0 (eo ad (ad 0) (ad 7) rest)) kk jj 795 [(0, .ref (ad 32)), (1, .int 15)] [] := by
  refine x_iinc C 1 (v := 16) (lv' := [(0, .ref (ad 32)), (1, .int 16)]) dL_searches_795 rfl (by decide) (by decide) rfl ?_
  refine x_goto C (t := 744) dL_searches_798 (by decide) ?_
  refine x_iload_n C 1 dL_searches_744 rfl ?_
  refine x_bipush C (v := 21) dL_searches_745 (by decide) ?_
  refine x_icmp_ge C (t := 801) dL_searches_747 (by decide) (fun c9 => absurd c9 (by decide)) (fun _ => ?_)
  refine x_aload_n C 0 dL_searches_750 rfl ?_
  refine x_bipush C (v := 13) dL_searches_751 (by decide) ?_
  refine x_iload_n C 1 dL_searches_753 rfl ?_
  refine x_iconst C (v := 2) dL_searches_754 (by decide) ?_
  refine x_irem C dL_searches_755 (by decide) ?_
  refine x_topi (v' := 0) (by decide) ?_
  refine x_iadd C dL_searches_756 ?_
  refine x_topi (v' := 13) (by decide) ?_
  refine x_iload_n C 1 dL_searches_757 rfl ?_
  refine x_iconst C (v := 3) dL_searches_758 (by decide) ?_
  refine x_irem C dL_searches_759 (by decide) ?_
  refine x_topi (v' := 1) (by decide) ?_
  refine x_iload_n C 1 dL_searches_760 rfl ?_
  refine x_iconst C (v := 2) dL_searches_761 (by decide) ?_
  refine x_irem C dL_searches_762 (by decide) ?_
  refine x_topi (v' := 0) (by decide) ?_
  refine x_if_ne C (t := 770) dL_searches_763 (by decide) (fun c9 => absurd c9 (by decide)) (fun _ => ?_)
  refine x_iconst C (v := 0) dL_searches_766 (by decide) ?_
  refine x_goto C (t := 773) dL_searches_767 (by decide) ?_
  refine x_iconst C (v := 0) dL_searches_773 (by decide) ?_
  refine x_iconst C (v := 0) dL_searches_774 (by decide) ?_
  obtain ⟨S1, f1, g1⟩ := w_test (k := 1) (a := 0) (b' := 0) (z := 16) h0 (by decide +kernel)
  have e1 : X5_test S0 1 0 0 = some (0, 16, S1) := f1
  have h1 : CS S1 sv33 := g1
  refine x_ci (mc := 0) (ms := 0) (x_runSW C hX hN (As := [.ref (ad 32), .int 13, .int 1, .int 0, .int 0, .int 0]) (rest := []) (c_L_act_test_ok hfl e1) (cw_L_searches_L_act_ok C) rfl (Nat.le_of_ble_eq_true rfl) dL_searches_775 ⟨by show _ ≤ 487; omega, by show _ ≤ 4014; omega⟩) ?_
  refine x_iload_n C 1 dL_searches_778 rfl ?_
  refine x_bipush C (v := 20) dL_searches_779 (by decide) ?_
  refine x_icmp_ge C (t := 788) dL_searches_781 (by decide) (fun c9 => absurd c9 (by decide)) (fun _ => ?_)
  refine x_iload_n C 1 dL_searches_784 rfl ?_
  refine x_goto C (t := 790) dL_searches_785 (by decide) ?_
  refine x_icmp_eq C (t := 795) dL_searches_790 (by decide) (fun _ => ?_) (fun c9 => absurd c9 (by decide))
  refine x_iinc C 1 (v := 17) (lv' := [(0, .ref (ad 32)), (1, .int 17)]) dL_searches_795 rfl (by decide) (by decide) rfl ?_
  refine x_goto C (t := 744) dL_searches_798 (by decide) ?_
  refine x_iload_n C 1 dL_searches_744 rfl ?_
  refine x_bipush C (v := 21) dL_searches_745 (by decide) ?_
  refine x_icmp_ge C (t := 801) dL_searches_747 (by decide) (fun c9 => absurd c9 (by decide)) (fun _ => ?_)
  refine x_aload_n C 0 dL_searches_750 rfl ?_
  refine x_bipush C (v := 13) dL_searches_751 (by decide) ?_
  refine x_iload_n C 1 dL_searches_753 rfl ?_
  refine x_iconst C (v := 2) dL_searches_754 (by decide) ?_
  refine x_irem C dL_searches_755 (by decide) ?_
  refine x_topi (v' := 1) (by decide) ?_
  refine x_iadd C dL_searches_756 ?_
  refine x_topi (v' := 14) (by decide) ?_
  refine x_iload_n C 1 dL_searches_757 rfl ?_
  refine x_iconst C (v := 3) dL_searches_758 (by decide) ?_
  refine x_irem C dL_searches_759 (by decide) ?_
  refine x_topi (v' := 2) (by decide) ?_
  refine x_iload_n C 1 dL_searches_760 rfl ?_
  refine x_iconst C (v := 2) dL_searches_761 (by decide) ?_
  refine x_irem C dL_searches_762 (by decide) ?_
  refine x_topi (v' := 1) (by decide) ?_
  refine x_if_ne C (t := 770) dL_searches_763 (by decide) (fun _ => ?_) (fun c9 => absurd c9 (by decide))
  refine x_iload_n C 1 dL_searches_770 rfl ?_
  refine x_iconst C (v := 1) dL_searches_771 (by decide) ?_
  refine x_isub C dL_searches_772 ?_
  refine x_topi (v' := 16) (by decide) ?_
  refine x_iconst C (v := 0) dL_searches_773 (by decide) ?_
  refine x_iconst C (v := 0) dL_searches_774 (by decide) ?_
  obtain ⟨S2, f2, g2⟩ := w_join (k := 2) (a := 16) (b' := 0) (z := 17) h1 (by decide +kernel)
  have e2 : X5_join S1 2 16 0 = some (0, 17, S2) := f2
  have h2 : CS S2 sv34 := g2
  refine x_ci (mc := 0) (ms := 0) (x_runSW C hX hN (As := [.ref (ad 32), .int 14, .int 2, .int 16, .int 0, .int 0]) (rest := []) (c_L_act_join_ok hfl e2) (cw_L_searches_L_act_ok C) rfl (Nat.le_of_ble_eq_true rfl) dL_searches_775 ⟨by show _ ≤ 487; omega, by show _ ≤ 4014; omega⟩) ?_
  refine x_iload_n C 1 dL_searches_778 rfl ?_
  refine x_bipush C (v := 20) dL_searches_779 (by decide) ?_
  refine x_icmp_ge C (t := 788) dL_searches_781 (by decide) (fun c9 => absurd c9 (by decide)) (fun _ => ?_)
  refine x_iload_n C 1 dL_searches_784 rfl ?_
  refine x_goto C (t := 790) dL_searches_785 (by decide) ?_
  refine x_icmp_eq C (t := 795) dL_searches_790 (by decide) (fun _ => ?_) (fun c9 => absurd c9 (by decide))
  refine x_iinc C 1 (v := 18) (lv' := [(0, .ref (ad 32)), (1, .int 18)]) dL_searches_795 rfl (by decide) (by decide) rfl ?_
  refine x_goto C (t := 744) dL_searches_798 (by decide) ?_
  refine x_iload_n C 1 dL_searches_744 rfl ?_
  refine x_bipush C (v := 21) dL_searches_745 (by decide) ?_
  refine x_icmp_ge C (t := 801) dL_searches_747 (by decide) (fun c9 => absurd c9 (by decide)) (fun _ => ?_)
  refine x_aload_n C 0 dL_searches_750 rfl ?_
  refine x_bipush C (v := 13) dL_searches_751 (by decide) ?_
  refine x_iload_n C 1 dL_searches_753 rfl ?_
  refine x_iconst C (v := 2) dL_searches_754 (by decide) ?_
  refine x_irem C dL_searches_755 (by decide) ?_
  refine x_topi (v' := 0) (by decide) ?_
  refine x_iadd C dL_searches_756 ?_
  refine x_topi (v' := 13) (by decide) ?_
  refine x_iload_n C 1 dL_searches_757 rfl ?_
  refine x_iconst C (v := 3) dL_searches_758 (by decide) ?_
  refine x_irem C dL_searches_759 (by decide) ?_
  refine x_topi (v' := 0) (by decide) ?_
  refine x_iload_n C 1 dL_searches_760 rfl ?_
  refine x_iconst C (v := 2) dL_searches_761 (by decide) ?_
  refine x_irem C dL_searches_762 (by decide) ?_
  refine x_topi (v' := 0) (by decide) ?_
  refine x_if_ne C (t := 770) dL_searches_763 (by decide) (fun c9 => absurd c9 (by decide)) (fun _ => ?_)
  refine x_iconst C (v := 0) dL_searches_766 (by decide) ?_
  refine x_goto C (t := 773) dL_searches_767 (by decide) ?_
  refine x_iconst C (v := 0) dL_searches_773 (by decide) ?_
  refine x_iconst C (v := 0) dL_searches_774 (by decide) ?_
  obtain ⟨S3, f3, g3⟩ := w_test (k := 0) (a := 0) (b' := 0) (z := 18) h2 (by decide +kernel)
  have e3 : X5_test S2 0 0 0 = some (0, 18, S3) := f3
  have h3 : CS S3 sv35 := g3
  refine x_ci (mc := 0) (ms := 0) (x_runSW C hX hN (As := [.ref (ad 32), .int 13, .int 0, .int 0, .int 0, .int 0]) (rest := []) (c_L_act_test_ok hfl e3) (cw_L_searches_L_act_ok C) rfl (Nat.le_of_ble_eq_true rfl) dL_searches_775 ⟨by show _ ≤ 487; omega, by show _ ≤ 4014; omega⟩) ?_
  refine x_iload_n C 1 dL_searches_778 rfl ?_
  refine x_bipush C (v := 20) dL_searches_779 (by decide) ?_
  refine x_icmp_ge C (t := 788) dL_searches_781 (by decide) (fun c9 => absurd c9 (by decide)) (fun _ => ?_)
  refine x_iload_n C 1 dL_searches_784 rfl ?_
  refine x_goto C (t := 790) dL_searches_785 (by decide) ?_
  refine x_icmp_eq C (t := 795) dL_searches_790 (by decide) (fun _ => ?_) (fun c9 => absurd c9 (by decide))
  exact x_widen (by omega) (by omega) (K _ h3)
set_option maxHeartbeats 4000000 in
set_option maxRecDepth 100000 in
theorem svs27 {p : Program} {l : Launch} {e : Env} {s : State} {m : MethodId} {args : Array Value} {below : List Frame} {meth : Method} {c : Code} {D : va_G} {cI cZ cJ : ClassId} {ad : Nat → Nat} {S0 : St} {rest w0 : va_W} {Q : State → Prop} {kk jj : Nat} (hfl : l.stackTraces = false) (C : XC p rm_L_searches s m args meth c cL_searches 2 (some .boolean) RL wsL_searches D (t3 cI cZ cJ)) (hX : XS (va_A w0 s.heap.size) s s.heap) (hN : NC s) (h0 : CS S0 sv35) (hk : kk + 227 ≤ 487) (hj : jj + 1362 ≤ 4014) (K : ∀ S', CS S' sv36 → XW p l e rm_L_searches s m args below meth c D w0 2 Q (wE cI cZ ad S' (eo ad (ad 0) (ad 7) rest)) (kk + 227) (jj + 1362) 827 [(0, .ref (ad 32)), (1, .int 21)] []) : XW p l e rm_L_searches s m args below meth c D w0 2 Q (wE cI cZ ad S0 (eo ad (ad 0) (ad 7) rest)) kk jj 795 [(0, .ref (ad 32)), (1, .int 18)] [] := by
  refine x_iinc C 1 (v := 19) (lv' := [(0, .ref (ad 32)), (1, .int 19)]) dL_searches_795 rfl (by decide) (by decide) rfl ?_
  refine x_goto C (t := 744) dL_searches_798 (by decide) ?_
  refine x_iload_n C 1 dL_searches_744 rfl ?_
  refine x_bipush C (v := 21) dL_searches_745 (by decide) ?_
  refine x_icmp_ge C (t := 801) dL_searches_747 (by decide) (fun c9 => absurd c9 (by decide)) (fun _ => ?_)
  refine x_aload_n C 0 dL_searches_750 rfl ?_
  refine x_bipush C (v := 13) dL_searches_751 (by decide) ?_
  refine x_iload_n C 1 dL_searches_753 rfl ?_
  refine x_iconst C (v := 2) dL_searches_754 (by decide) ?_
  refine x_irem C dL_searches_755 (by decide) ?_
  refine x_topi (v' := 1) (by decide) ?_
  refine x_iadd C dL_searches_756 ?_
  refine x_topi (v' := 14) (by decide) ?_
  refine x_iload_n C 1 dL_searches_757 rfl ?_
  refine x_iconst C (v := 3) dL_searches_758 (by decide) ?_
  refine x_irem C dL_searches_759 (by decide) ?_
  refine x_topi (v' := 1) (by decide) ?_
  refine x_iload_n C 1 dL_searches_760 rfl ?_
  refine x_iconst C (v := 2) dL_searches_761 (by decide) ?_
  refine x_irem C dL_searches_762 (by decide) ?_
  refine x_topi (v' := 1) (by decide) ?_
  refine x_if_ne C (t := 770) dL_searches_763 (by decide) (fun _ => ?_) (fun c9 => absurd c9 (by decide))
  refine x_iload_n C 1 dL_searches_770 rfl ?_
  refine x_iconst C (v := 1) dL_searches_771 (by decide) ?_
  refine x_isub C dL_searches_772 ?_
  refine x_topi (v' := 18) (by decide) ?_
  refine x_iconst C (v := 0) dL_searches_773 (by decide) ?_
  refine x_iconst C (v := 0) dL_searches_774 (by decide) ?_
  obtain ⟨S1, f1, g1⟩ := w_join (k := 1) (a := 18) (b' := 0) (z := 19) h0 (by decide +kernel)
  have e1 : X5_join S0 1 18 0 = some (0, 19, S1) := f1
  have h1 : CS S1 sv36 := g1
  refine x_ci (mc := 0) (ms := 0) (x_runSW C hX hN (As := [.ref (ad 32), .int 14, .int 1, .int 18, .int 0, .int 0]) (rest := []) (c_L_act_join_ok hfl e1) (cw_L_searches_L_act_ok C) rfl (Nat.le_of_ble_eq_true rfl) dL_searches_775 ⟨by show _ ≤ 487; omega, by show _ ≤ 4014; omega⟩) ?_
  refine x_iload_n C 1 dL_searches_778 rfl ?_
  refine x_bipush C (v := 20) dL_searches_779 (by decide) ?_
  refine x_icmp_ge C (t := 788) dL_searches_781 (by decide) (fun c9 => absurd c9 (by decide)) (fun _ => ?_)
  refine x_iload_n C 1 dL_searches_784 rfl ?_
  refine x_goto C (t := 790) dL_searches_785 (by decide) ?_
  refine x_icmp_eq C (t := 795) dL_searches_790 (by decide) (fun _ => ?_) (fun c9 => absurd c9 (by decide))
  refine x_iinc C 1 (v := 20) (lv' := [(0, .ref (ad 32)), (1, .int 20)]) dL_searches_795 rfl (by decide) (by decide) rfl ?_
  refine x_goto C (t := 744) dL_searches_798 (by decide) ?_
  refine x_iload_n C 1 dL_searches_744 rfl ?_
  refine x_bipush C (v := 21) dL_searches_745 (by decide) ?_
  refine x_icmp_ge C (t := 801) dL_searches_747 (by decide) (fun c9 => absurd c9 (by decide)) (fun _ => ?_)
  refine x_aload_n C 0 dL_searches_750 rfl ?_
  refine x_bipush C (v := 13) dL_searches_751 (by decide) ?_
  refine x_iload_n C 1 dL_searches_753 rfl ?_
  refine x_iconst C (v := 2) dL_searches_754 (by decide) ?_
  refine x_irem C dL_searches_755 (by decide) ?_
  refine x_topi (v' := 0) (by decide) ?_
  refine x_iadd C dL_searches_756 ?_
  refine x_topi (v' := 13) (by decide) ?_
  refine x_iload_n C 1 dL_searches_757 rfl ?_
  refine x_iconst C (v := 3) dL_searches_758 (by decide) ?_
  refine x_irem C dL_searches_759 (by decide) ?_
  refine x_topi (v' := 2) (by decide) ?_
  refine x_iload_n C 1 dL_searches_760 rfl ?_
  refine x_iconst C (v := 2) dL_searches_761 (by decide) ?_
  refine x_irem C dL_searches_762 (by decide) ?_
  refine x_topi (v' := 0) (by decide) ?_
  refine x_if_ne C (t := 770) dL_searches_763 (by decide) (fun c9 => absurd c9 (by decide)) (fun _ => ?_)
  refine x_iconst C (v := 0) dL_searches_766 (by decide) ?_
  refine x_goto C (t := 773) dL_searches_767 (by decide) ?_
  refine x_iconst C (v := 0) dL_searches_773 (by decide) ?_
  refine x_iconst C (v := 0) dL_searches_774 (by decide) ?_
  have q1 : X5_test S1 2 0 0 = some (3, 0, S1) := ic_test_full (m := 0) (k := 2) (a := 0) (b := 0) h1 (by decide +kernel) (by decide) (by decide) (by decide)
  refine x_ci (mc := 1) (ms := 6) (x_runSW C hX hN (As := [.ref (ad 32), .int 13, .int 2, .int 0, .int 0, .int 0]) (rest := []) (c_L_act_test_th2 hfl q1) (cw_L_searches_L_act_th C) rfl (Nat.le_of_ble_eq_true rfl) dL_searches_775 ⟨by show _ ≤ 487; omega, by show _ ≤ 4014; omega⟩) ?_
  refine x_iload_n C 1 dL_searches_778 rfl ?_
  refine x_bipush C (v := 20) dL_searches_779 (by decide) ?_
  refine x_icmp_ge C (t := 788) dL_searches_781 (by decide) (fun _ => ?_) (fun c9 => absurd c9 (by decide))
  refine x_bipush C (v := (-73)) dL_searches_788 (by decide) ?_
  refine x_icmp_eq C (t := 795) dL_searches_790 (by decide) (fun _ => ?_) (fun c9 => absurd c9 (by decide))
  refine x_iinc C 1 (v := 21) (lv' := [(0, .ref (ad 32)), (1, .int 21)]) dL_searches_795 rfl (by decide) (by decide) rfl ?_
  refine x_goto C (t := 744) dL_searches_798 (by decide) ?_
  refine x_iload_n C 1 dL_searches_744 rfl ?_
  refine x_bipush C (v := 21) dL_searches_745 (by decide) ?_
  refine x_icmp_ge C (t := 801) dL_searches_747 (by decide) (fun _ => ?_) (fun c9 => absurd c9 (by decide))
  refine x_aload_n C 0 dL_searches_801 rfl ?_
  refine x_bipush C (v := 14) dL_searches_802 (by decide) ?_
  refine x_iconst C (v := 0) dL_searches_804 (by decide) ?_
  refine x_iconst C (v := 0) dL_searches_805 (by decide) ?_
  refine x_iconst C (v := 0) dL_searches_806 (by decide) ?_
  refine x_iconst C (v := 0) dL_searches_807 (by decide) ?_
  have q2 : X5_join S1 0 0 0 = some (3, 0, S1) := ic_join_full (m := 0) (k := 0) (a := 0) (b := 0) h1 (by decide +kernel) (by decide) (by decide +kernel) (by decide +kernel)
  refine x_ci (mc := 1) (ms := 6) (x_runSW C hX hN (As := [.ref (ad 32), .int 14, .int 0, .int 0, .int 0, .int 0]) (rest := []) (c_L_act_join_th2 hfl q2) (cw_L_searches_L_act_th C) rfl (Nat.le_of_ble_eq_true rfl) dL_searches_808 ⟨by show _ ≤ 487; omega, by show _ ≤ 4014; omega⟩) ?_
  refine x_bipush C (v := (-73)) dL_searches_811 (by decide) ?_
  refine x_icmp_ne C (t := 831) dL_searches_813 (by decide) (fun c9 => absurd c9 (by decide)) (fun _ => ?_)
  refine x_aload_n C 0 dL_searches_816 rfl ?_
  refine x_bipush C (v := 20) dL_searches_817 (by decide) ?_
  refine x_bipush C (v := 6) dL_searches_819 (by decide) ?_
  have r3 : RFS S1 7 20 6 := w_rfs (p := 6) (z := 7) (k := 20) h1 (by decide +kernel)
  refine x_ci (mc := 225) (ms := 1350) (x_runSY C hX hN (As := [.ref (ad 32), .int (nI 20), .int (nI 6)]) (rest := []) (c_L_refuses hfl r3) (cw_L_searches_L_refuses C) rfl (Nat.le_of_ble_eq_true rfl) dL_searches_821 ⟨by show _ ≤ 487; omega, by show _ ≤ 4014; omega⟩) ?_
  refine x_if_eq C (t := 831) dL_searches_824 (by decide) (fun c9 => absurd c9 (by decide)) (fun _ => ?_)
  exact x_widen (by omega) (by omega) (K _ h1)
set_option maxHeartbeats 4000000 in
set_option maxRecDepth 100000 in
theorem svs28 {p : Program} {l : Launch} {e : Env} {s : State} {m : MethodId} {args : Array Value} {below : List Frame} {meth : Method} {c : Code} {D : va_G} {cI cZ cJ : ClassId} {ad : Nat → Nat} {S0 : St} {rest w0 : va_W} {Q : State → Prop} {kk jj : Nat} (hfl : l.stackTraces = false) (C : XC p rm_L_searches s m args meth c cL_searches 2 (some .boolean) RL wsL_searches D (t3 cI cZ cJ)) (hX : XS (va_A w0 s.heap.size) s s.heap) (hN : NC s) (h0 : CS S0 sv36) (hk : kk + 0 ≤ 487) (hj : jj + 0 ≤ 4014) (K : ∀ S', CS S' sv36 → XW p l e rm_L_searches s m args below meth c D w0 2 Q (wE cI cZ ad S' (eo ad (ad 0) (ad 7) rest)) kk jj 832 [(0, .ref (ad 32)), (1, .int 21)] [.int 1]) : XW p l e rm_L_searches s m args below meth c D w0 2 Q (wE cI cZ ad S0 (eo ad (ad 0) (ad 7) rest)) kk jj 827 [(0, .ref (ad 32)), (1, .int 21)] [] := by
  refine x_iconst C (v := 1) dL_searches_827 (by decide) ?_
  refine x_goto C (t := 832) dL_searches_828 (by decide) ?_
  exact x_widen (by omega) (by omega) (K _ h0)
