set_option maxHeartbeats 4000000 in
set_option maxRecDepth 100000 in
theorem svs18 {p : Program} {l : Launch} {e : Env} {s : State} {m : MethodId} {args : Array Value} {below : List Frame} {meth : Method} {c : Code} {D : va_G} {cI cZ cJ : ClassId} {ad : Nat → Nat} {S0 : St} {rest w0 : va_W} {Q : State → Prop} {kk jj : Nat} (hfl : l.stackTraces = false) (C : XC p rm_L_searches s m args meth c cL_searches 2 (some .boolean) RL wsL_searches D (t3 cI cZ cJ)) (hX : XS (va_A w0 s.heap.size) s s.heap) (hN : NC s) (h0 : CS S0 sv17) (hk : kk + 0 ≤ 487) (hj : jj + 0 ≤ 4014) (K : ∀ S', CS S' sv19 → XW p l e rm_L_searches s m args below meth c D w0 2 Q (wE cI cZ ad S' (eo ad (ad 0) (ad 7) rest)) kk jj 642 [(0, .ref (ad 32))] []) : XW p l e rm_L_searches s m args below meth c D w0 2 Q (wE cI cZ ad S0 (eo ad (ad 0) (ad 7) rest)) kk jj 607 [(0, .ref (ad 32))] [] := by
  refine x_aload_n C 0 dL_searches_607 rfl ?_
  refine x_iconst C (v := 0) dL_searches_608 (by decide) ?_
  refine x_iconst C (v := 2) dL_searches_609 (by decide) ?_
  refine x_iconst C (v := (-1)) dL_searches_610 (by decide) ?_
  obtain ⟨S1, f1, g1⟩ := w_right (i := 0) (k := 2) (v := (-1)) h0 (by decide +kernel)
  have e1 : X5_setRight S0 0 2 (-1) = some (0, S1) := f1
  have h1 : CS S1 sv18 := g1
  refine x_ci (mc := 0) (ms := 0) (x_runSW C hX hN (As := [.ref (ad 32), .int 0, .int 2, .int (-1)]) (rest := []) (c_L_right_ok hfl e1) (cw_L_searches_L_right_ok C) rfl (Nat.le_of_ble_eq_true rfl) dL_searches_611 ⟨by show _ ≤ 487; omega, by show _ ≤ 4014; omega⟩) ?_
  refine x_if_ne C (t := 739) dL_searches_614 (by decide) (fun c9 => absurd c9 (by decide)) (fun _ => ?_)
  refine x_aload_n C 0 dL_searches_617 rfl ?_
  refine x_iconst C (v := 0) dL_searches_618 (by decide) ?_
  refine x_iconst C (v := 0) dL_searches_619 (by decide) ?_
  refine x_iconst C (v := 1) dL_searches_620 (by decide) ?_
  obtain ⟨S2, f2, g2⟩ := w_right (i := 0) (k := 0) (v := 1) h1 (by decide +kernel)
  have e2 : X5_setRight S1 0 0 1 = some (0, S2) := f2
  have h2 : CS S2 sv19 := g2
  refine x_ci (mc := 0) (ms := 0) (x_runSW C hX hN (As := [.ref (ad 32), .int 0, .int 0, .int 1]) (rest := []) (c_L_right_ok hfl e2) (cw_L_searches_L_right_ok C) rfl (Nat.le_of_ble_eq_true rfl) dL_searches_621 ⟨by show _ ≤ 487; omega, by show _ ≤ 4014; omega⟩) ?_
  refine x_if_ne C (t := 739) dL_searches_624 (by decide) (fun c9 => absurd c9 (by decide)) (fun _ => ?_)
  refine x_aload_n C 0 dL_searches_627 rfl ?_
  refine x_iconst C (v := 0) dL_searches_628 (by decide) ?_
  refine x_iconst C (v := 0) dL_searches_629 (by decide) ?_
  refine x_iconst C (v := 2) dL_searches_630 (by decide) ?_
  refine x_iconst C (v := 5) dL_searches_631 (by decide) ?_
  refine x_iconst C (v := 4) dL_searches_632 (by decide) ?_
  refine x_iconst C (v := (-1)) dL_searches_633 (by decide) ?_
  refine x_iconst C (v := (-1)) dL_searches_634 (by decide) ?_
  refine x_iconst C (v := (-1)) dL_searches_635 (by decide) ?_
  obtain ⟨S3, f3, g3⟩ := w_search (u := 0) (bs' := 0) (sc := 2) (x := 5) (pl := 0) (o := (some 4)) h2 (by decide +kernel) (by decide +kernel)
  have e3 : X5_search S2 0 0 0 2 5 0 = some (0, 4, S3) := f3
  have h3 : CS S3 sv19 := g3
  obtain ⟨S4, f4, g4⟩ := w_search (u := 0) (bs' := 0) (sc := 2) (x := 5) (pl := 1) (o := none) h3 (by decide +kernel) (by decide +kernel)
  have e4 : X5_search S3 0 0 0 2 5 1 = some (0, (-1), S4) := f4
  have h4 : CS S4 sv19 := g4
  refine x_ci0 (x_runS C (As := [.ref (ad 32), .int 0, .int 0, .int 2, .int 5, .int 4, .int (-1), .int (-1), .int (-1)]) (rest := []) (c_L_finds_1 (by decide) (by decide) e3 e4) (cw_L_searches_L_finds C) rfl (Nat.le_of_ble_eq_true rfl) dL_searches_636 ⟨by show _ ≤ 487; omega, by show _ ≤ 4014; omega⟩) ?_
  refine x_if_eq C (t := 739) dL_searches_639 (by decide) (fun c9 => absurd c9 (by decide)) (fun _ => ?_)
  exact x_widen (by omega) (by omega) (K _ h4)
set_option maxHeartbeats 4000000 in
set_option maxRecDepth 100000 in
theorem svs19 {p : Program} {l : Launch} {e : Env} {s : State} {m : MethodId} {args : Array Value} {below : List Frame} {meth : Method} {c : Code} {D : va_G} {cI cZ cJ : ClassId} {ad : Nat → Nat} {S0 : St} {rest w0 : va_W} {Q : State → Prop} {kk jj : Nat} (hfl : l.stackTraces = false) (C : XC p rm_L_searches s m args meth c cL_searches 2 (some .boolean) RL wsL_searches D (t3 cI cZ cJ)) (hX : XS (va_A w0 s.heap.size) s s.heap) (hN : NC s) (h0 : CS S0 sv19) (hk : kk + 0 ≤ 487) (hj : jj + 0 ≤ 4014) (K : ∀ S', CS S' sv21 → XW p l e rm_L_searches s m args below meth c D w0 2 Q (wE cI cZ ad S' (eo ad (ad 0) (ad 7) rest)) kk jj 676 [(0, .ref (ad 32))] []) : XW p l e rm_L_searches s m args below meth c D w0 2 Q (wE cI cZ ad S0 (eo ad (ad 0) (ad 7) rest)) kk jj 642 [(0, .ref (ad 32))] [] := by
  refine x_aload_n C 0 dL_searches_642 rfl ?_
  refine x_iconst C (v := 0) dL_searches_643 (by decide) ?_
  refine x_iconst C (v := 0) dL_searches_644 (by decide) ?_
  refine x_iconst C (v := (-1)) dL_searches_645 (by decide) ?_
  obtain ⟨S1, f1, g1⟩ := w_right (i := 0) (k := 0) (v := (-1)) h0 (by decide +kernel)
  have e1 : X5_setRight S0 0 0 (-1) = some (0, S1) := f1
  have h1 : CS S1 sv20 := g1
  refine x_ci (mc := 0) (ms := 0) (x_runSW C hX hN (As := [.ref (ad 32), .int 0, .int 0, .int (-1)]) (rest := []) (c_L_right_ok hfl e1) (cw_L_searches_L_right_ok C) rfl (Nat.le_of_ble_eq_true rfl) dL_searches_646 ⟨by show _ ≤ 487; omega, by show _ ≤ 4014; omega⟩) ?_
  refine x_if_ne C (t := 739) dL_searches_649 (by decide) (fun c9 => absurd c9 (by decide)) (fun _ => ?_)
  refine x_aload_n C 0 dL_searches_652 rfl ?_
  refine x_iconst C (v := 2) dL_searches_653 (by decide) ?_
  refine x_iconst C (v := 1) dL_searches_654 (by decide) ?_
  obtain ⟨S2, f2, g2⟩ := w_refer (k := 2) (b := true) h1 (by decide +kernel)
  have e2 : X5_refer S1 2 1 = some (0, S2) := f2
  have h2 : CS S2 sv21 := g2
  refine x_ci (mc := 0) (ms := 0) (x_runSW C hX hN (As := [.ref (ad 32), .int 2, .int 1]) (rest := []) (c_L_refer_ok hfl e2) (cw_L_searches_L_refer_ok C) rfl (Nat.le_of_ble_eq_true rfl) dL_searches_655 ⟨by show _ ≤ 487; omega, by show _ ≤ 4014; omega⟩) ?_
  refine x_if_ne C (t := 739) dL_searches_658 (by decide) (fun c9 => absurd c9 (by decide)) (fun _ => ?_)
  refine x_aload_n C 0 dL_searches_661 rfl ?_
  refine x_iconst C (v := 0) dL_searches_662 (by decide) ?_
  refine x_iconst C (v := 0) dL_searches_663 (by decide) ?_
  refine x_iconst C (v := 2) dL_searches_664 (by decide) ?_
  refine x_iconst C (v := 5) dL_searches_665 (by decide) ?_
  refine x_iconst C (v := 0) dL_searches_666 (by decide) ?_
  refine x_iconst C (v := 5) dL_searches_667 (by decide) ?_
  refine x_iconst C (v := 1) dL_searches_668 (by decide) ?_
  refine x_iconst C (v := (-1)) dL_searches_669 (by decide) ?_
  obtain ⟨S3, f3, g3⟩ := w_search (u := 0) (bs' := 0) (sc := 2) (x := 5) (pl := 0) (o := (some 0)) h2 (by decide +kernel) (by decide +kernel)
  have e3 : X5_search S2 0 0 0 2 5 0 = some (0, 0, S3) := f3
  have h3 : CS S3 sv21 := g3
  obtain ⟨S4, f4, g4⟩ := w_search (u := 0) (bs' := 0) (sc := 2) (x := 5) (pl := 1) (o := (some 5)) h3 (by decide +kernel) (by decide +kernel)
  have e4 : X5_search S3 0 0 0 2 5 1 = some (0, 5, S4) := f4
  have h4 : CS S4 sv21 := g4
  obtain ⟨S5, f5, g5⟩ := w_search (u := 0) (bs' := 0) (sc := 2) (x := 5) (pl := 2) (o := (some 1)) h4 (by decide +kernel) (by decide +kernel)
  have e5 : X5_search S4 0 0 0 2 5 2 = some (0, 1, S5) := f5
  have h5 : CS S5 sv21 := g5
  obtain ⟨S6, f6, g6⟩ := w_search (u := 0) (bs' := 0) (sc := 2) (x := 5) (pl := 3) (o := none) h5 (by decide +kernel) (by decide +kernel)
  have e6 : X5_search S5 0 0 0 2 5 3 = some (0, (-1), S6) := f6
  have h6 : CS S6 sv21 := g6
  refine x_ci0 (x_runS C (As := [.ref (ad 32), .int 0, .int 0, .int 2, .int 5, .int 0, .int 5, .int 1, .int (-1)]) (rest := []) (c_L_finds_3 (by decide) (by decide) (by decide) (by decide) e3 e4 e5 e6) (cw_L_searches_L_finds C) rfl (Nat.le_of_ble_eq_true rfl) dL_searches_670 ⟨by show _ ≤ 487; omega, by show _ ≤ 4014; omega⟩) ?_
  refine x_if_eq C (t := 739) dL_searches_673 (by decide) (fun c9 => absurd c9 (by decide)) (fun _ => ?_)
  exact x_widen (by omega) (by omega) (K _ h6)
set_option maxHeartbeats 4000000 in
set_option maxRecDepth 100000 in
theorem svs20 {p : Program} {l : Launch} {e : Env} {s : State} {m : MethodId} {args : Array Value} {below : List Frame} {meth : Method} {c : Code} {D : va_G} {cI cZ cJ : ClassId} {ad : Nat → Nat} {S0 : St} {rest w0 : va_W} {Q : State → Prop} {kk jj : Nat} (hfl : l.stackTraces = false) (C : XC p rm_L_searches s m args meth c cL_searches 2 (some .boolean) RL wsL_searches D (t3 cI cZ cJ)) (hX : XS (va_A w0 s.heap.size) s s.heap) (hN : NC s) (h0 : CS S0 sv21) (hk : kk + 0 ≤ 487) (hj : jj + 0 ≤ 4014) (K : ∀ S', CS S' sv21 → XW p l e rm_L_searches s m args below meth c D w0 2 Q (wE cI cZ ad S' (eo ad (ad 0) (ad 7) rest)) kk jj 691 [(0, .ref (ad 32))] []) : XW p l e rm_L_searches s m args below meth c D w0 2 Q (wE cI cZ ad S0 (eo ad (ad 0) (ad 7) rest)) kk jj 676 [(0, .ref (ad 32))] [] := by
  refine x_aload_n C 0 dL_searches_676 rfl ?_
  refine x_iconst C (v := 0) dL_searches_677 (by decide) ?_
  refine x_iconst C (v := 2) dL_searches_678 (by decide) ?_
  refine x_iconst C (v := 2) dL_searches_679 (by decide) ?_
  refine x_iconst C (v := 3) dL_searches_680 (by decide) ?_
  refine x_iconst C (v := 2) dL_searches_681 (by decide) ?_
  refine x_iconst C (v := 4) dL_searches_682 (by decide) ?_
  refine x_iconst C (v := (-1)) dL_searches_683 (by decide) ?_
  refine x_iconst C (v := (-1)) dL_searches_684 (by decide) ?_
  obtain ⟨S1, f1, g1⟩ := w_search (u := 0) (bs' := 2) (sc := 2) (x := 3) (pl := 0) (o := (some 2)) h0 (by decide +kernel) (by decide +kernel)
  have e1 : X5_search S0 0 0 2 2 3 0 = some (0, 2, S1) := f1
  have h1 : CS S1 sv21 := g1
  obtain ⟨S2, f2, g2⟩ := w_search (u := 0) (bs' := 2) (sc := 2) (x := 3) (pl := 1) (o := (some 4)) h1 (by decide +kernel) (by decide +kernel)
  have e2 : X5_search S1 0 0 2 2 3 1 = some (0, 4, S2) := f2
  have h2 : CS S2 sv21 := g2
  obtain ⟨S3, f3, g3⟩ := w_search (u := 0) (bs' := 2) (sc := 2) (x := 3) (pl := 2) (o := none) h2 (by decide +kernel) (by decide +kernel)
  have e3 : X5_search S2 0 0 2 2 3 2 = some (0, (-1), S3) := f3
  have h3 : CS S3 sv21 := g3
  refine x_ci0 (x_runS C (As := [.ref (ad 32), .int 0, .int 2, .int 2, .int 3, .int 2, .int 4, .int (-1), .int (-1)]) (rest := []) (c_L_finds_2 (by decide) (by decide) (by decide) e1 e2 e3) (cw_L_searches_L_finds C) rfl (Nat.le_of_ble_eq_true rfl) dL_searches_685 ⟨by show _ ≤ 487; omega, by show _ ≤ 4014; omega⟩) ?_
  refine x_if_eq C (t := 739) dL_searches_688 (by decide) (fun c9 => absurd c9 (by decide)) (fun _ => ?_)
  exact x_widen (by omega) (by omega) (K _ h3)
set_option maxHeartbeats 4000000 in
set_option maxRecDepth 100000 in
theorem svs21 {p : Program} {l : Launch} {e : Env} {s : State} {m : MethodId} {args : Array Value} {below : List Frame} {meth : Method} {c : Code} {D : va_G} {cI cZ cJ : ClassId} {ad : Nat → Nat} {S0 : St} {rest w0 : va_W} {Q : State → Prop} {kk jj : Nat} (hfl : l.stackTraces = false) (C : XC p rm_L_searches s m args meth c cL_searches 2 (some .boolean) RL wsL_searches D (t3 cI cZ cJ)) (hX : XS (va_A w0 s.heap.size) s s.heap) (hN : NC s) (h0 : CS S0 sv21) (hk : kk + 0 ≤ 487) (hj : jj + 0 ≤ 4014) (K : ∀ S', CS S' sv22 → XW p l e rm_L_searches s m args below meth c D w0 2 Q (wE cI cZ ad S' (eo ad (ad 0) (ad 7) rest)) kk jj 715 [(0, .ref (ad 32))] []) : XW p l e rm_L_searches s m args below meth c D w0 2 Q (wE cI cZ ad S0 (eo ad (ad 0) (ad 7) rest)) kk jj 691 [(0, .ref (ad 32))] [] := by
  refine x_aload_n C 0 dL_searches_691 rfl ?_
  refine x_iconst C (v := 4) dL_searches_692 (by decide) ?_
  refine x_iconst C (v := 1) dL_searches_693 (by decide) ?_
  obtain ⟨S1, f1, g1⟩ := w_refer (k := 4) (b := true) h0 (by decide +kernel)
  have e1 : X5_refer S0 4 1 = some (0, S1) := f1
  have h1 : CS S1 sv22 := g1
  refine x_ci (mc := 0) (ms := 0) (x_runSW C hX hN (As := [.ref (ad 32), .int 4, .int 1]) (rest := []) (c_L_refer_ok hfl e1) (cw_L_searches_L_refer_ok C) rfl (Nat.le_of_ble_eq_true rfl) dL_searches_694 ⟨by show _ ≤ 487; omega, by show _ ≤ 4014; omega⟩) ?_
  refine x_if_ne C (t := 739) dL_searches_697 (by decide) (fun c9 => absurd c9 (by decide)) (fun _ => ?_)
  refine x_aload_n C 0 dL_searches_700 rfl ?_
  refine x_iconst C (v := 0) dL_searches_701 (by decide) ?_
  refine x_iconst C (v := 2) dL_searches_702 (by decide) ?_
  refine x_iconst C (v := 2) dL_searches_703 (by decide) ?_
  refine x_iconst C (v := 3) dL_searches_704 (by decide) ?_
  refine x_iconst C (v := 2) dL_searches_705 (by decide) ?_
  refine x_iconst C (v := (-1)) dL_searches_706 (by decide) ?_
  refine x_iconst C (v := (-1)) dL_searches_707 (by decide) ?_
  refine x_iconst C (v := (-1)) dL_searches_708 (by decide) ?_
  obtain ⟨S2, f2, g2⟩ := w_search (u := 0) (bs' := 2) (sc := 2) (x := 3) (pl := 0) (o := (some 2)) h1 (by decide +kernel) (by decide +kernel)
  have e2 : X5_search S1 0 0 2 2 3 0 = some (0, 2, S2) := f2
  have h2 : CS S2 sv22 := g2
  obtain ⟨S3, f3, g3⟩ := w_search (u := 0) (bs' := 2) (sc := 2) (x := 3) (pl := 1) (o := none) h2 (by decide +kernel) (by decide +kernel)
  have e3 : X5_search S2 0 0 2 2 3 1 = some (0, (-1), S3) := f3
  have h3 : CS S3 sv22 := g3
  refine x_ci0 (x_runS C (As := [.ref (ad 32), .int 0, .int 2, .int 2, .int 3, .int 2, .int (-1), .int (-1), .int (-1)]) (rest := []) (c_L_finds_1 (by decide) (by decide) e2 e3) (cw_L_searches_L_finds C) rfl (Nat.le_of_ble_eq_true rfl) dL_searches_709 ⟨by show _ ≤ 487; omega, by show _ ≤ 4014; omega⟩) ?_
  refine x_if_eq C (t := 739) dL_searches_712 (by decide) (fun c9 => absurd c9 (by decide)) (fun _ => ?_)
  exact x_widen (by omega) (by omega) (K _ h3)
set_option maxHeartbeats 4000000 in
set_option maxRecDepth 100000 in
theorem svs22 {p : Program} {l : Launch} {e : Env} {s : State} {m : MethodId} {args : Array Value} {below : List Frame} {meth : Method} {c : Code} {D : va_G} {cI cZ cJ : ClassId} {ad : Nat → Nat} {S0 : St} {rest w0 : va_W} {Q : State → Prop} {kk jj : Nat} (hfl : l.stackTraces = false) (C : XC p rm_L_searches s m args meth c cL_searches 2 (some .boolean) RL wsL_searches D (t3 cI cZ cJ)) (hX : XS (va_A w0 s.heap.size) s s.heap) (hN : NC s) (h0 : CS S0 sv22) (hk : kk + 0 ≤ 487) (hj : jj + 0 ≤ 4014) (K : ∀ S', CS S' sv23 → XW p l e rm_L_searches s m args below meth c D w0 2 Q (wE cI cZ ad S' (eo ad (ad 0) (ad 7) rest)) kk jj 741 [(0, .ref (ad 32))] []) : XW p l e rm_L_searches s m args below meth c D w0 2 Q (wE cI cZ ad S0 (eo ad (ad 0) (ad 7) rest)) kk jj 715 [(0, .ref (ad 32))] [] := by
  refine x_aload_n C 0 dL_searches_715 rfl ?_
  refine x_iconst C (v := 0) dL_searches_716 (by decide) ?_
  refine x_iconst C (v := 4) dL_searches_717 (by decide) ?_
  refine x_iconst C (v := 0) dL_searches_718 (by decide) ?_
  refine x_iconst C (v := 5) dL_searches_719 (by decide) ?_
  refine x_iconst C (v := 4) dL_searches_720 (by decide) ?_
  refine x_iconst C (v := (-1)) dL_searches_721 (by decide) ?_
  refine x_iconst C (v := (-1)) dL_searches_722 (by decide) ?_
  refine x_iconst C (v := (-1)) dL_searches_723 (by decide) ?_
  obtain ⟨S1, f1, g1⟩ := w_search (u := 0) (bs' := 4) (sc := 0) (x := 5) (pl := 0) (o := (some 4)) h0 (by decide +kernel) (by decide +kernel)
  have e1 : X5_search S0 0 0 4 0 5 0 = some (0, 4, S1) := f1
  have h1 : CS S1 sv22 := g1
  obtain ⟨S2, f2, g2⟩ := w_search (u := 0) (bs' := 4) (sc := 0) (x := 5) (pl := 1) (o := none) h1 (by decide +kernel) (by decide +kernel)
  have e2 : X5_search S1 0 0 4 0 5 1 = some (0, (-1), S2) := f2
  have h2 : CS S2 sv22 := g2
  refine x_ci0 (x_runS C (As := [.ref (ad 32), .int 0, .int 4, .int 0, .int 5, .int 4, .int (-1), .int (-1), .int (-1)]) (rest := []) (c_L_finds_1 (by decide) (by decide) e1 e2) (cw_L_searches_L_finds C) rfl (Nat.le_of_ble_eq_true rfl) dL_searches_724 ⟨by show _ ≤ 487; omega, by show _ ≤ 4014; omega⟩) ?_
  refine x_if_eq C (t := 739) dL_searches_727 (by decide) (fun c9 => absurd c9 (by decide)) (fun _ => ?_)
  refine x_aload_n C 0 dL_searches_730 rfl ?_
  refine x_iconst C (v := 2) dL_searches_731 (by decide) ?_
  refine x_iconst C (v := 0) dL_searches_732 (by decide) ?_
  obtain ⟨S3, f3, g3⟩ := w_refer (k := 2) (b := false) h2 (by decide +kernel)
  have e3 : X5_refer S2 2 0 = some (0, S3) := f3
  have h3 : CS S3 sv23 := g3
  refine x_ci (mc := 0) (ms := 0) (x_runSW C hX hN (As := [.ref (ad 32), .int 2, .int 0]) (rest := []) (c_L_refer_ok hfl e3) (cw_L_searches_L_refer_ok C) rfl (Nat.le_of_ble_eq_true rfl) dL_searches_733 ⟨by show _ ≤ 487; omega, by show _ ≤ 4014; omega⟩) ?_
  refine x_if_eq C (t := 741) dL_searches_736 (by decide) (fun _ => ?_) (fun c9 => absurd c9 (by decide))
  exact x_widen (by omega) (by omega) (K _ h3)
set_option maxHeartbeats 4000000 in
set_option maxRecDepth 100000 in
theorem svs23 {p : Program} {l : Launch} {e : Env} {s : State} {m : MethodId} {args : Array Value} {below : List Frame} {meth : Method} {c : Code} {D : va_G} {cI cZ cJ : ClassId} {ad : Nat → Nat} {S0 : St} {rest w0 : va_W} {Q : State → Prop} {kk jj : Nat} (hfl : l.stackTraces = false) (C : XC p rm_L_searches s m args meth c cL_searches 2 (some .boolean) RL wsL_searches D (t3 cI cZ cJ)) (hX : XS (va_A w0 s.heap.size) s s.heap) (hN : NC s) (h0 : CS S0 sv23) (hk : kk + 0 ≤ 487) (hj : jj + 0 ≤ 4014) (K : ∀ S', CS S' sv26 → XW p l e rm_L_searches s m args below meth c D w0 2 Q (wE cI cZ ad S' (eo ad (ad 0) (ad 7) rest)) kk jj 795 [(0, .ref (ad 32)), (1, .int 9)] []) : XW p l e rm_L_searches s m args below meth c D w0 2 Q (wE cI cZ ad S0 (eo ad (ad 0) (ad 7) rest)) kk jj 741 [(0, .ref (ad 32))] [] := by
  refine x_bipush C (v := 7) dL_searches_741 (by decide) ?_
  refine x_istore_n C (lv' := [(0, .ref (ad 32)), (1, .int 7)]) dL_searches_743 (by decide) rfl ?_
  refine x_iload_n C 1 dL_searches_744 rfl ?_
  refine x_bipush C (v := 21) dL_searches_745 (by decide) ?_
  refine x_icmp_ge C (t := 801) dL_searches_747 (by decide) (fun c9 => absurd c9 (by decide)) (fun _ => ?_)
  refine x_aload_n C 0 dL_searches_750 rfl ?_
  refine x_bipush C (v := 13) dL_searches_751 (by decide) ?_
  refine x_iload_n C 1 dL_searches_753 rfl ?_
  refine x_iconst C (v := 2) dL_searches_754 (by decide) ?_
  refine x_irem C dL_searches_755 (by decide) ?_
  refine x_topi (v' := 1) (by decide) ?_
  refine x_iadd C dL_searches_756 ?_
  refine x_topi (v' := 14) (by decide) ?_
  refine x_iload_n C 1 dL_searches_757 rfl ?_
  refine x_iconst C (v := 3) dL_searches_758 (by decide) ?_
  refine x_irem C dL_searches_759 (by decide) ?_
  refine x_topi (v' := 1) (by decide) ?_
  refine x_iload_n C 1 dL_searches_760 rfl ?_
  refine x_iconst C (v := 2) dL_searches_761 (by decide) ?_
  refine x_irem C dL_searches_762 (by decide) ?_
  refine x_topi (v' := 1) (by decide) ?_
  refine x_if_ne C (t := 770) dL_searches_763 (by decide) (fun _ => ?_) (fun c9 => absurd c9 (by decide))
  refine x_iload_n C 1 dL_searches_770 rfl ?_
  refine x_iconst C (v := 1) dL_searches_771 (by decide) ?_
  refine x_isub C dL_searches_772 ?_
  refine x_topi (v' := 6) (by decide) ?_
  refine x_iconst C (v := 0) dL_searches_773 (by decide) ?_
  refine x_iconst C (v := 0) dL_searches_774 (by decide) ?_
  obtain ⟨S1, f1, g1⟩ := w_join (k := 1) (a := 6) (b' := 0) (z := 7) h0 (by decide +kernel)
  have e1 : X5_join S0 1 6 0 = some (0, 7, S1) := f1
  have h1 : CS S1 sv24 := g1
  refine x_ci (mc := 0) (ms := 0) (x_runSW C hX hN (As := [.ref (ad 32), .int 14, .int 1, .int 6, .int 0, .int 0]) (rest := []) (c_L_act_join_ok hfl e1) (cw_L_searches_L_act_ok C) rfl (Nat.le_of_ble_eq_true rfl) dL_searches_775 ⟨by show _ ≤ 487; omega, by show _ ≤ 4014; omega⟩) ?_
  refine x_iload_n C 1 dL_searches_778 rfl ?_
  refine x_bipush C (v := 20) dL_searches_779 (by decide) ?_
  refine x_icmp_ge C (t := 788) dL_searches_781 (by decide) (fun c9 => absurd c9 (by decide)) (fun _ => ?_)
  refine x_iload_n C 1 dL_searches_784 rfl ?_
  refine x_goto C (t := 790) dL_searches_785 (by decide) ?_
  refine x_icmp_eq C (t := 795) dL_searches_790 (by decide) (fun _ => ?_) (fun c9 => absurd c9 (by decide))
  refine x_iinc C 1 (v := 8) (lv' := [(0, .ref (ad 32)), (1, .int 8)]) dL_searches_795 rfl (by decide) (by decide) rfl ?_
  refine x_goto C (t := 744) dL_searches_798 (by decide) ?_
  refine x_iload_n C 1 dL_searches_744 rfl ?_
  refine x_bipush C (v := 21) dL_searches_745 (by decide) ?_
  refine x_icmp_ge C (t := 801) dL_searches_747 (by decide) (fun c9 => absurd c9 (by decide)) (fun _ => ?_)
  refine x_aload_n C 0 dL_searches_750 rfl ?_
  refine x_bipush C (v := 13) dL_searches_751 (by decide) ?_
  refine x_iload_n C 1 dL_searches_753 rfl ?_
  refine x_iconst C (v := 2) dL_searches_754 (by decide) ?_
  refine x_irem C dL_searches_755 (by decide) ?_
  refine x_topi (v' := 0) (by decide) ?_
  refine x_iadd C dL_searches_756 ?_
  refine x_topi (v' := 13) (by decide) ?_
  refine x_iload_n C 1 dL_searches_757 rfl ?_
  refine x_iconst C (v := 3) dL_searches_758 (by decide) ?_
  refine x_irem C dL_searches_759 (by decide) ?_
  refine x_topi (v' := 2) (by decide) ?_
  refine x_iload_n C 1 dL_searches_760 rfl ?_
  refine x_iconst C (v := 2) dL_searches_761 (by decide) ?_
  refine x_irem C dL_searches_762 (by decide) ?_
  refine x_topi (v' := 0) (by decide) ?_
  refine x_if_ne C (t := 770) dL_searches_763 (by decide) (fun c9 => absurd c9 (by decide)) (fun _ => ?_)
  refine x_iconst C (v := 0) dL_searches_766 (by decide) ?_
  refine x_goto C (t := 773) dL_searches_767 (by decide) ?_
  refine x_iconst C (v := 0) dL_searches_773 (by decide) ?_
  refine x_iconst C (v := 0) dL_searches_774 (by decide) ?_
  obtain ⟨S2, f2, g2⟩ := w_test (k := 2) (a := 0) (b' := 0) (z := 8) h1 (by decide +kernel)
  have e2 : X5_test S1 2 0 0 = some (0, 8, S2) := f2
  have h2 : CS S2 sv25 := g2
  refine x_ci (mc := 0) (ms := 0) (x_runSW C hX hN (As := [.ref (ad 32), .int 13, .int 2, .int 0, .int 0, .int 0]) (rest := []) (c_L_act_test_ok hfl e2) (cw_L_searches_L_act_ok C) rfl (Nat.le_of_ble_eq_true rfl) dL_searches_775 ⟨by show _ ≤ 487; omega, by show _ ≤ 4014; omega⟩) ?_
  refine x_iload_n C 1 dL_searches_778 rfl ?_
  refine x_bipush C (v := 20) dL_searches_779 (by decide) ?_
  refine x_icmp_ge C (t := 788) dL_searches_781 (by decide) (fun c9 => absurd c9 (by decide)) (fun _ => ?_)
  refine x_iload_n C 1 dL_searches_784 rfl ?_
  refine x_goto C (t := 790) dL_searches_785 (by decide) ?_
  refine x_icmp_eq C (t := 795) dL_searches_790 (by decide) (fun _ => ?_) (fun c9 => absurd c9 (by decide))
  refine x_iinc C 1 (v := 9) (lv' := [(0, .ref (ad 32)), (1, .int 9)]) dL_searches_795 rfl (by decide) (by decide) rfl ?_
  refine x_goto C (t := 744) dL_searches_798 (by decide) ?_
  refine x_iload_n C 1 dL_searches_744 rfl ?_
  refine x_bipush C (v := 21) dL_searches_745 (by decide) ?_
  refine x_icmp_ge C (t := 801) dL_searches_747 (by decide) (fun c9 => absurd c9 (by decide)) (fun _ => ?_)
  refine x_aload_n C 0 dL_searches_750 rfl ?_
  refine x_bipush C (v := 13) dL_searches_751 (by decide) ?_
  refine x_iload_n C 1 dL_searches_753 rfl ?_
  refine x_iconst C (v := 2) dL_searches_754 (by decide) ?_
  refine x_irem C dL_searches_755 (by decide) ?_
  refine x_topi (v' := 1) (by decide) ?_
  refine x_iadd C dL_searches_756 ?_
  refine x_topi (v' := 14) (by decide) ?_
  refine x_iload_n C 1 dL_searches_757 rfl ?_
  refine x_iconst C (v := 3) dL_searches_758 (by decide) ?_
  refine x_irem C dL_searches_759 (by decide) ?_
  refine x_topi (v' := 0) (by decide) ?_
  refine x_iload_n C 1 dL_searches_760 rfl ?_
  refine x_iconst C (v := 2) dL_searches_761 (by decide) ?_
  refine x_irem C dL_searches_762 (by decide) ?_
  refine x_topi (v' := 1) (by decide) ?_
  refine x_if_ne C (t := 770) dL_searches_763 (by decide) (fun _ => ?_) (fun c9 => absurd c9 (by decide))
  refine x_iload_n C 1 dL_searches_770 rfl ?_
  refine x_iconst C (v := 1) dL_searches_771 (by decide) ?_
  refine x_isub C dL_searches_772 ?_
  refine x_topi (v' := 8) (by decide) ?_
  refine x_iconst C (v := 0) dL_searches_773 (by decide) ?_
  refine x_iconst C (v := 0) dL_searches_774 (by decide) ?_
  obtain ⟨S3, f3, g3⟩ := w_join (k := 0) (a := 8) (b' := 0) (z := 9) h2 (by decide +kernel)
  have e3 : X5_join S2 0 8 0 = some (0, 9, S3) := f3
  have h3 : CS S3 sv26 := g3
  refine x_ci (mc := 0) (ms := 0) (x_runSW C hX hN (As := [.ref (ad 32), .int 14, .int 0, .int 8, .int 0, .int 0]) (rest := []) (c_L_act_join_ok hfl e3) (cw_L_searches_L_act_ok C) rfl (Nat.le_of_ble_eq_true rfl) dL_searches_775 ⟨by show _ ≤ 487; omega, by show _ ≤ 4014; omega⟩) ?_
  refine x_iload_n C 1 dL_searches_778 rfl ?_
  refine x_bipush C (v := 20) dL_searches_779 (by decide) ?_
  refine x_icmp_ge C (t := 788) dL_searches_781 (by decide) (fun c9 => absurd c9 (by decide)) (fun _ => ?_)
  refine x_iload_n C 1 dL_searches_784 rfl ?_
  refine x_goto C (t := 790) dL_searches_785 (by decide) ?_
  refine x_icmp_eq C (t := 795) dL_searches_790 (by decide) (fun _ => ?_) (fun c9 => absurd c9 (by decide))
  exact x_widen (by omega) (by omega) (K _ h3)
