set_option maxHeartbeats 4000000 in
set_option maxRecDepth 100000 in
theorem svs12 {p : Program} {l : Launch} {e : Env} {s : State} {m : MethodId} {args : Array Value} {below : List Frame} {meth : Method} {c : Code} {D : va_G} {cI cZ cJ : ClassId} {ad : Nat → Nat} {S0 : St} {rest w0 : va_W} {Q : State → Prop} {kk jj : Nat} (hfl : l.stackTraces = false) (C : XC p rm_L_searches s m args meth c cL_searches 2 (some .boolean) RL wsL_searches D (t3 cI cZ cJ)) (hX : XS (va_A w0 s.heap.size) s s.heap) (hN : NC s) (h0 : CS S0 sv15) (hk : kk + 0 ≤ 487) (hj : jj + 0 ≤ 4014) (K : ∀ S', CS S' sv15 → XW p l e rm_L_searches s m args below meth c D w0 2 Q (wE cI cZ ad S' (eo ad (ad 0) (ad 7) rest)) kk jj 467 [(0, .ref (ad 32))] []) : XW p l e rm_L_searches s m args below meth c D w0 2 Q (wE cI cZ ad S0 (eo ad (ad 0) (ad 7) rest)) kk jj 452 [(0, .ref (ad 32))] [] := by
  refine x_aload_n C 0 dL_searches_452 rfl ?_
  refine x_iconst C (v := 0) dL_searches_453 (by decide) ?_
  refine x_iconst C (v := 0) dL_searches_454 (by decide) ?_
  refine x_iconst C (v := 1) dL_searches_455 (by decide) ?_
  refine x_iconst C (v := 5) dL_searches_456 (by decide) ?_
  refine x_iconst C (v := 5) dL_searches_457 (by decide) ?_
  refine x_iconst C (v := 1) dL_searches_458 (by decide) ?_
  refine x_iconst C (v := (-1)) dL_searches_459 (by decide) ?_
  refine x_iconst C (v := (-1)) dL_searches_460 (by decide) ?_
  obtain ⟨S1, f1, g1⟩ := w_search (u := 0) (bs' := 0) (sc := 1) (x := 5) (pl := 0) (o := (some 5)) h0 (by decide +kernel) (by decide +kernel)
  have e1 : X5_search S0 0 0 0 1 5 0 = some (0, 5, S1) := f1
  have h1 : CS S1 sv15 := g1
  obtain ⟨S2, f2, g2⟩ := w_search (u := 0) (bs' := 0) (sc := 1) (x := 5) (pl := 1) (o := (some 1)) h1 (by decide +kernel) (by decide +kernel)
  have e2 : X5_search S1 0 0 0 1 5 1 = some (0, 1, S2) := f2
  have h2 : CS S2 sv15 := g2
  obtain ⟨S3, f3, g3⟩ := w_search (u := 0) (bs' := 0) (sc := 1) (x := 5) (pl := 2) (o := none) h2 (by decide +kernel) (by decide +kernel)
  have e3 : X5_search S2 0 0 0 1 5 2 = some (0, (-1), S3) := f3
  have h3 : CS S3 sv15 := g3
  refine x_ci0 (x_runS C (As := [.ref (ad 32), .int 0, .int 0, .int 1, .int 5, .int 5, .int 1, .int (-1), .int (-1)]) (rest := []) (c_L_finds_2 (by decide) (by decide) (by decide) e1 e2 e3) (cw_L_searches_L_finds C) rfl (Nat.le_of_ble_eq_true rfl) dL_searches_461 ⟨by show _ ≤ 487; omega, by show _ ≤ 4014; omega⟩) ?_
  refine x_if_eq C (t := 739) dL_searches_464 (by decide) (fun c9 => absurd c9 (by decide)) (fun _ => ?_)
  exact x_widen (by omega) (by omega) (K _ h3)
set_option maxHeartbeats 4000000 in
set_option maxRecDepth 100000 in
theorem svs13 {p : Program} {l : Launch} {e : Env} {s : State} {m : MethodId} {args : Array Value} {below : List Frame} {meth : Method} {c : Code} {D : va_G} {cI cZ cJ : ClassId} {ad : Nat → Nat} {S0 : St} {rest w0 : va_W} {Q : State → Prop} {kk jj : Nat} (hfl : l.stackTraces = false) (C : XC p rm_L_searches s m args meth c cL_searches 2 (some .boolean) RL wsL_searches D (t3 cI cZ cJ)) (hX : XS (va_A w0 s.heap.size) s s.heap) (hN : NC s) (h0 : CS S0 sv15) (hk : kk + 0 ≤ 487) (hj : jj + 0 ≤ 4014) (K : ∀ S', CS S' sv15 → XW p l e rm_L_searches s m args below meth c D w0 2 Q (wE cI cZ ad S' (eo ad (ad 0) (ad 7) rest)) kk jj 497 [(0, .ref (ad 32))] []) : XW p l e rm_L_searches s m args below meth c D w0 2 Q (wE cI cZ ad S0 (eo ad (ad 0) (ad 7) rest)) kk jj 467 [(0, .ref (ad 32))] [] := by
  refine x_aload_n C 0 dL_searches_467 rfl ?_
  refine x_iconst C (v := 0) dL_searches_468 (by decide) ?_
  refine x_iconst C (v := 0) dL_searches_469 (by decide) ?_
  refine x_iconst C (v := 0) dL_searches_470 (by decide) ?_
  refine x_iconst C (v := 5) dL_searches_471 (by decide) ?_
  refine x_iconst C (v := 0) dL_searches_472 (by decide) ?_
  refine x_iconst C (v := (-1)) dL_searches_473 (by decide) ?_
  refine x_iconst C (v := (-1)) dL_searches_474 (by decide) ?_
  refine x_iconst C (v := (-1)) dL_searches_475 (by decide) ?_
  obtain ⟨S1, f1, g1⟩ := w_search (u := 0) (bs' := 0) (sc := 0) (x := 5) (pl := 0) (o := (some 0)) h0 (by decide +kernel) (by decide +kernel)
  have e1 : X5_search S0 0 0 0 0 5 0 = some (0, 0, S1) := f1
  have h1 : CS S1 sv15 := g1
  obtain ⟨S2, f2, g2⟩ := w_search (u := 0) (bs' := 0) (sc := 0) (x := 5) (pl := 1) (o := none) h1 (by decide +kernel) (by decide +kernel)
  have e2 : X5_search S1 0 0 0 0 5 1 = some (0, (-1), S2) := f2
  have h2 : CS S2 sv15 := g2
  refine x_ci0 (x_runS C (As := [.ref (ad 32), .int 0, .int 0, .int 0, .int 5, .int 0, .int (-1), .int (-1), .int (-1)]) (rest := []) (c_L_finds_1 (by decide) (by decide) e1 e2) (cw_L_searches_L_finds C) rfl (Nat.le_of_ble_eq_true rfl) dL_searches_476 ⟨by show _ ≤ 487; omega, by show _ ≤ 4014; omega⟩) ?_
  refine x_if_eq C (t := 739) dL_searches_479 (by decide) (fun c9 => absurd c9 (by decide)) (fun _ => ?_)
  refine x_aload_n C 0 dL_searches_482 rfl ?_
  refine x_iconst C (v := 0) dL_searches_483 (by decide) ?_
  refine x_iconst C (v := 2) dL_searches_484 (by decide) ?_
  refine x_iconst C (v := 0) dL_searches_485 (by decide) ?_
  refine x_iconst C (v := 5) dL_searches_486 (by decide) ?_
  refine x_iconst C (v := (-1)) dL_searches_487 (by decide) ?_
  refine x_iconst C (v := (-1)) dL_searches_488 (by decide) ?_
  refine x_iconst C (v := (-1)) dL_searches_489 (by decide) ?_
  refine x_iconst C (v := (-1)) dL_searches_490 (by decide) ?_
  obtain ⟨S3, f3, g3⟩ := w_search (u := 0) (bs' := 2) (sc := 0) (x := 5) (pl := 0) (o := none) h2 (by decide +kernel) (by decide +kernel)
  have e3 : X5_search S2 0 0 2 0 5 0 = some (0, (-1), S3) := f3
  have h3 : CS S3 sv15 := g3
  refine x_ci0 (x_runS C (As := [.ref (ad 32), .int 0, .int 2, .int 0, .int 5, .int (-1), .int (-1), .int (-1), .int (-1)]) (rest := []) (c_L_finds_0 (by decide) e3) (cw_L_searches_L_finds C) rfl (Nat.le_of_ble_eq_true rfl) dL_searches_491 ⟨by show _ ≤ 487; omega, by show _ ≤ 4014; omega⟩) ?_
  refine x_if_eq C (t := 739) dL_searches_494 (by decide) (fun c9 => absurd c9 (by decide)) (fun _ => ?_)
  exact x_widen (by omega) (by omega) (K _ h3)
set_option maxHeartbeats 4000000 in
set_option maxRecDepth 100000 in
theorem svs14 {p : Program} {l : Launch} {e : Env} {s : State} {m : MethodId} {args : Array Value} {below : List Frame} {meth : Method} {c : Code} {D : va_G} {cI cZ cJ : ClassId} {ad : Nat → Nat} {S0 : St} {rest w0 : va_W} {Q : State → Prop} {kk jj : Nat} (hfl : l.stackTraces = false) (C : XC p rm_L_searches s m args meth c cL_searches 2 (some .boolean) RL wsL_searches D (t3 cI cZ cJ)) (hX : XS (va_A w0 s.heap.size) s s.heap) (hN : NC s) (h0 : CS S0 sv15) (hk : kk + 0 ≤ 487) (hj : jj + 0 ≤ 4014) (K : ∀ S', CS S' sv15 → XW p l e rm_L_searches s m args below meth c D w0 2 Q (wE cI cZ ad S' (eo ad (ad 0) (ad 7) rest)) kk jj 527 [(0, .ref (ad 32))] []) : XW p l e rm_L_searches s m args below meth c D w0 2 Q (wE cI cZ ad S0 (eo ad (ad 0) (ad 7) rest)) kk jj 497 [(0, .ref (ad 32))] [] := by
  refine x_aload_n C 0 dL_searches_497 rfl ?_
  refine x_iconst C (v := 0) dL_searches_498 (by decide) ?_
  refine x_iconst C (v := 2) dL_searches_499 (by decide) ?_
  refine x_iconst C (v := 1) dL_searches_500 (by decide) ?_
  refine x_iconst C (v := 5) dL_searches_501 (by decide) ?_
  refine x_iconst C (v := 4) dL_searches_502 (by decide) ?_
  refine x_iconst C (v := (-1)) dL_searches_503 (by decide) ?_
  refine x_iconst C (v := (-1)) dL_searches_504 (by decide) ?_
  refine x_iconst C (v := (-1)) dL_searches_505 (by decide) ?_
  obtain ⟨S1, f1, g1⟩ := w_search (u := 0) (bs' := 2) (sc := 1) (x := 5) (pl := 0) (o := (some 4)) h0 (by decide +kernel) (by decide +kernel)
  have e1 : X5_search S0 0 0 2 1 5 0 = some (0, 4, S1) := f1
  have h1 : CS S1 sv15 := g1
  obtain ⟨S2, f2, g2⟩ := w_search (u := 0) (bs' := 2) (sc := 1) (x := 5) (pl := 1) (o := none) h1 (by decide +kernel) (by decide +kernel)
  have e2 : X5_search S1 0 0 2 1 5 1 = some (0, (-1), S2) := f2
  have h2 : CS S2 sv15 := g2
  refine x_ci0 (x_runS C (As := [.ref (ad 32), .int 0, .int 2, .int 1, .int 5, .int 4, .int (-1), .int (-1), .int (-1)]) (rest := []) (c_L_finds_1 (by decide) (by decide) e1 e2) (cw_L_searches_L_finds C) rfl (Nat.le_of_ble_eq_true rfl) dL_searches_506 ⟨by show _ ≤ 487; omega, by show _ ≤ 4014; omega⟩) ?_
  refine x_if_eq C (t := 739) dL_searches_509 (by decide) (fun c9 => absurd c9 (by decide)) (fun _ => ?_)
  refine x_aload_n C 0 dL_searches_512 rfl ?_
  refine x_iconst C (v := 0) dL_searches_513 (by decide) ?_
  refine x_iconst C (v := 2) dL_searches_514 (by decide) ?_
  refine x_iconst C (v := 2) dL_searches_515 (by decide) ?_
  refine x_iconst C (v := 3) dL_searches_516 (by decide) ?_
  refine x_iconst C (v := 2) dL_searches_517 (by decide) ?_
  refine x_iconst C (v := 4) dL_searches_518 (by decide) ?_
  refine x_iconst C (v := (-1)) dL_searches_519 (by decide) ?_
  refine x_iconst C (v := (-1)) dL_searches_520 (by decide) ?_
  obtain ⟨S3, f3, g3⟩ := w_search (u := 0) (bs' := 2) (sc := 2) (x := 3) (pl := 0) (o := (some 2)) h2 (by decide +kernel) (by decide +kernel)
  have e3 : X5_search S2 0 0 2 2 3 0 = some (0, 2, S3) := f3
  have h3 : CS S3 sv15 := g3
  obtain ⟨S4, f4, g4⟩ := w_search (u := 0) (bs' := 2) (sc := 2) (x := 3) (pl := 1) (o := (some 4)) h3 (by decide +kernel) (by decide +kernel)
  have e4 : X5_search S3 0 0 2 2 3 1 = some (0, 4, S4) := f4
  have h4 : CS S4 sv15 := g4
  obtain ⟨S5, f5, g5⟩ := w_search (u := 0) (bs' := 2) (sc := 2) (x := 3) (pl := 2) (o := none) h4 (by decide +kernel) (by decide +kernel)
  have e5 : X5_search S4 0 0 2 2 3 2 = some (0, (-1), S5) := f5
  have h5 : CS S5 sv15 := g5
  refine x_ci0 (x_runS C (As := [.ref (ad 32), .int 0, .int 2, .int 2, .int 3, .int 2, .int 4, .int (-1), .int (-1)]) (rest := []) (c_L_finds_2 (by decide) (by decide) (by decide) e3 e4 e5) (cw_L_searches_L_finds C) rfl (Nat.le_of_ble_eq_true rfl) dL_searches_521 ⟨by show _ ≤ 487; omega, by show _ ≤ 4014; omega⟩) ?_
  refine x_if_eq C (t := 739) dL_searches_524 (by decide) (fun c9 => absurd c9 (by decide)) (fun _ => ?_)
  exact x_widen (by omega) (by omega) (K _ h5)
set_option maxHeartbeats 4000000 in
set_option maxRecDepth 100000 in
theorem svs15 {p : Program} {l : Launch} {e : Env} {s : State} {m : MethodId} {args : Array Value} {below : List Frame} {meth : Method} {c : Code} {D : va_G} {cI cZ cJ : ClassId} {ad : Nat → Nat} {S0 : St} {rest w0 : va_W} {Q : State → Prop} {kk jj : Nat} (hfl : l.stackTraces = false) (C : XC p rm_L_searches s m args meth c cL_searches 2 (some .boolean) RL wsL_searches D (t3 cI cZ cJ)) (hX : XS (va_A w0 s.heap.size) s s.heap) (hN : NC s) (h0 : CS S0 sv15) (hk : kk + 0 ≤ 487) (hj : jj + 0 ≤ 4014) (K : ∀ S', CS S' sv16 → XW p l e rm_L_searches s m args below meth c D w0 2 Q (wE cI cZ ad S' (eo ad (ad 0) (ad 7) rest)) kk jj 567 [(0, .ref (ad 32))] []) : XW p l e rm_L_searches s m args below meth c D w0 2 Q (wE cI cZ ad S0 (eo ad (ad 0) (ad 7) rest)) kk jj 527 [(0, .ref (ad 32))] [] := by
  refine x_aload_n C 0 dL_searches_527 rfl ?_
  refine x_iconst C (v := 0) dL_searches_528 (by decide) ?_
  refine x_iconst C (v := 4) dL_searches_529 (by decide) ?_
  refine x_iconst C (v := 1) dL_searches_530 (by decide) ?_
  refine x_iconst C (v := 5) dL_searches_531 (by decide) ?_
  refine x_iconst C (v := (-1)) dL_searches_532 (by decide) ?_
  refine x_iconst C (v := (-1)) dL_searches_533 (by decide) ?_
  refine x_iconst C (v := (-1)) dL_searches_534 (by decide) ?_
  refine x_iconst C (v := (-1)) dL_searches_535 (by decide) ?_
  obtain ⟨S1, f1, g1⟩ := w_search (u := 0) (bs' := 4) (sc := 1) (x := 5) (pl := 0) (o := none) h0 (by decide +kernel) (by decide +kernel)
  have e1 : X5_search S0 0 0 4 1 5 0 = some (0, (-1), S1) := f1
  have h1 : CS S1 sv15 := g1
  refine x_ci0 (x_runS C (As := [.ref (ad 32), .int 0, .int 4, .int 1, .int 5, .int (-1), .int (-1), .int (-1), .int (-1)]) (rest := []) (c_L_finds_0 (by decide) e1) (cw_L_searches_L_finds C) rfl (Nat.le_of_ble_eq_true rfl) dL_searches_536 ⟨by show _ ≤ 487; omega, by show _ ≤ 4014; omega⟩) ?_
  refine x_if_eq C (t := 739) dL_searches_539 (by decide) (fun c9 => absurd c9 (by decide)) (fun _ => ?_)
  refine x_aload_n C 0 dL_searches_542 rfl ?_
  refine x_iconst C (v := 0) dL_searches_543 (by decide) ?_
  refine x_iconst C (v := 2) dL_searches_544 (by decide) ?_
  refine x_iconst C (v := 1) dL_searches_545 (by decide) ?_
  obtain ⟨S2, f2, g2⟩ := w_right (i := 0) (k := 2) (v := 1) h1 (by decide +kernel)
  have e2 : X5_setRight S1 0 2 1 = some (0, S2) := f2
  have h2 : CS S2 sv16 := g2
  refine x_ci (mc := 0) (ms := 0) (x_runSW C hX hN (As := [.ref (ad 32), .int 0, .int 2, .int 1]) (rest := []) (c_L_right_ok hfl e2) (cw_L_searches_L_right_ok C) rfl (Nat.le_of_ble_eq_true rfl) dL_searches_546 ⟨by show _ ≤ 487; omega, by show _ ≤ 4014; omega⟩) ?_
  refine x_if_ne C (t := 739) dL_searches_549 (by decide) (fun c9 => absurd c9 (by decide)) (fun _ => ?_)
  refine x_aload_n C 0 dL_searches_552 rfl ?_
  refine x_iconst C (v := 0) dL_searches_553 (by decide) ?_
  refine x_iconst C (v := 2) dL_searches_554 (by decide) ?_
  refine x_iconst C (v := 2) dL_searches_555 (by decide) ?_
  refine x_iconst C (v := 3) dL_searches_556 (by decide) ?_
  refine x_iconst C (v := (-1)) dL_searches_557 (by decide) ?_
  refine x_iconst C (v := (-1)) dL_searches_558 (by decide) ?_
  refine x_iconst C (v := (-1)) dL_searches_559 (by decide) ?_
  refine x_iconst C (v := (-1)) dL_searches_560 (by decide) ?_
  obtain ⟨S3, f3, g3⟩ := w_search (u := 0) (bs' := 2) (sc := 2) (x := 3) (pl := 0) (o := none) h2 (by decide +kernel) (by decide +kernel)
  have e3 : X5_search S2 0 0 2 2 3 0 = some (0, (-1), S3) := f3
  have h3 : CS S3 sv16 := g3
  refine x_ci0 (x_runS C (As := [.ref (ad 32), .int 0, .int 2, .int 2, .int 3, .int (-1), .int (-1), .int (-1), .int (-1)]) (rest := []) (c_L_finds_0 (by decide) e3) (cw_L_searches_L_finds C) rfl (Nat.le_of_ble_eq_true rfl) dL_searches_561 ⟨by show _ ≤ 487; omega, by show _ ≤ 4014; omega⟩) ?_
  refine x_if_eq C (t := 739) dL_searches_564 (by decide) (fun c9 => absurd c9 (by decide)) (fun _ => ?_)
  exact x_widen (by omega) (by omega) (K _ h3)
set_option maxHeartbeats 4000000 in
set_option maxRecDepth 100000 in
theorem svs16 {p : Program} {l : Launch} {e : Env} {s : State} {m : MethodId} {args : Array Value} {below : List Frame} {meth : Method} {c : Code} {D : va_G} {cI cZ cJ : ClassId} {ad : Nat → Nat} {S0 : St} {rest w0 : va_W} {Q : State → Prop} {kk jj : Nat} (hfl : l.stackTraces = false) (C : XC p rm_L_searches s m args meth c cL_searches 2 (some .boolean) RL wsL_searches D (t3 cI cZ cJ)) (hX : XS (va_A w0 s.heap.size) s s.heap) (hN : NC s) (h0 : CS S0 sv16) (hk : kk + 0 ≤ 487) (hj : jj + 0 ≤ 4014) (K : ∀ S', CS S' sv16 → XW p l e rm_L_searches s m args below meth c D w0 2 Q (wE cI cZ ad S' (eo ad (ad 0) (ad 7) rest)) kk jj 582 [(0, .ref (ad 32))] []) : XW p l e rm_L_searches s m args below meth c D w0 2 Q (wE cI cZ ad S0 (eo ad (ad 0) (ad 7) rest)) kk jj 567 [(0, .ref (ad 32))] [] := by
  refine x_aload_n C 0 dL_searches_567 rfl ?_
  refine x_iconst C (v := 1) dL_searches_568 (by decide) ?_
  refine x_iconst C (v := 2) dL_searches_569 (by decide) ?_
  refine x_iconst C (v := 2) dL_searches_570 (by decide) ?_
  refine x_iconst C (v := 3) dL_searches_571 (by decide) ?_
  refine x_iconst C (v := 2) dL_searches_572 (by decide) ?_
  refine x_iconst C (v := 4) dL_searches_573 (by decide) ?_
  refine x_iconst C (v := (-1)) dL_searches_574 (by decide) ?_
  refine x_iconst C (v := (-1)) dL_searches_575 (by decide) ?_
  obtain ⟨S1, f1, g1⟩ := w_search (u := 1) (bs' := 2) (sc := 2) (x := 3) (pl := 0) (o := (some 2)) h0 (by decide +kernel) (by decide +kernel)
  have e1 : X5_search S0 0 1 2 2 3 0 = some (0, 2, S1) := f1
  have h1 : CS S1 sv16 := g1
  obtain ⟨S2, f2, g2⟩ := w_search (u := 1) (bs' := 2) (sc := 2) (x := 3) (pl := 1) (o := (some 4)) h1 (by decide +kernel) (by decide +kernel)
  have e2 : X5_search S1 0 1 2 2 3 1 = some (0, 4, S2) := f2
  have h2 : CS S2 sv16 := g2
  obtain ⟨S3, f3, g3⟩ := w_search (u := 1) (bs' := 2) (sc := 2) (x := 3) (pl := 2) (o := none) h2 (by decide +kernel) (by decide +kernel)
  have e3 : X5_search S2 0 1 2 2 3 2 = some (0, (-1), S3) := f3
  have h3 : CS S3 sv16 := g3
  refine x_ci0 (x_runS C (As := [.ref (ad 32), .int 1, .int 2, .int 2, .int 3, .int 2, .int 4, .int (-1), .int (-1)]) (rest := []) (c_L_finds_2 (by decide) (by decide) (by decide) e1 e2 e3) (cw_L_searches_L_finds C) rfl (Nat.le_of_ble_eq_true rfl) dL_searches_576 ⟨by show _ ≤ 487; omega, by show _ ≤ 4014; omega⟩) ?_
  refine x_if_eq C (t := 739) dL_searches_579 (by decide) (fun c9 => absurd c9 (by decide)) (fun _ => ?_)
  exact x_widen (by omega) (by omega) (K _ h3)
set_option maxHeartbeats 4000000 in
set_option maxRecDepth 100000 in
theorem svs17 {p : Program} {l : Launch} {e : Env} {s : State} {m : MethodId} {args : Array Value} {below : List Frame} {meth : Method} {c : Code} {D : va_G} {cI cZ cJ : ClassId} {ad : Nat → Nat} {S0 : St} {rest w0 : va_W} {Q : State → Prop} {kk jj : Nat} (hfl : l.stackTraces = false) (C : XC p rm_L_searches s m args meth c cL_searches 2 (some .boolean) RL wsL_searches D (t3 cI cZ cJ)) (hX : XS (va_A w0 s.heap.size) s s.heap) (hN : NC s) (h0 : CS S0 sv16) (hk : kk + 0 ≤ 487) (hj : jj + 0 ≤ 4014) (K : ∀ S', CS S' sv17 → XW p l e rm_L_searches s m args below meth c D w0 2 Q (wE cI cZ ad S' (eo ad (ad 0) (ad 7) rest)) kk jj 607 [(0, .ref (ad 32))] []) : XW p l e rm_L_searches s m args below meth c D w0 2 Q (wE cI cZ ad S0 (eo ad (ad 0) (ad 7) rest)) kk jj 582 [(0, .ref (ad 32))] [] := by
  refine x_aload_n C 0 dL_searches_582 rfl ?_
  refine x_iconst C (v := 0) dL_searches_583 (by decide) ?_
  refine x_iconst C (v := 4) dL_searches_584 (by decide) ?_
  refine x_iconst C (v := 0) dL_searches_585 (by decide) ?_
  obtain ⟨S1, f1, g1⟩ := w_right (i := 0) (k := 4) (v := 0) h0 (by decide +kernel)
  have e1 : X5_setRight S0 0 4 0 = some (0, S1) := f1
  have h1 : CS S1 sv17 := g1
  refine x_ci (mc := 0) (ms := 0) (x_runSW C hX hN (As := [.ref (ad 32), .int 0, .int 4, .int 0]) (rest := []) (c_L_right_ok hfl e1) (cw_L_searches_L_right_ok C) rfl (Nat.le_of_ble_eq_true rfl) dL_searches_586 ⟨by show _ ≤ 487; omega, by show _ ≤ 4014; omega⟩) ?_
  refine x_if_ne C (t := 739) dL_searches_589 (by decide) (fun c9 => absurd c9 (by decide)) (fun _ => ?_)
  refine x_aload_n C 0 dL_searches_592 rfl ?_
  refine x_iconst C (v := 0) dL_searches_593 (by decide) ?_
  refine x_iconst C (v := 2) dL_searches_594 (by decide) ?_
  refine x_iconst C (v := 2) dL_searches_595 (by decide) ?_
  refine x_iconst C (v := 3) dL_searches_596 (by decide) ?_
  refine x_iconst C (v := 4) dL_searches_597 (by decide) ?_
  refine x_iconst C (v := (-1)) dL_searches_598 (by decide) ?_
  refine x_iconst C (v := (-1)) dL_searches_599 (by decide) ?_
  refine x_iconst C (v := (-1)) dL_searches_600 (by decide) ?_
  obtain ⟨S2, f2, g2⟩ := w_search (u := 0) (bs' := 2) (sc := 2) (x := 3) (pl := 0) (o := (some 4)) h1 (by decide +kernel) (by decide +kernel)
  have e2 : X5_search S1 0 0 2 2 3 0 = some (0, 4, S2) := f2
  have h2 : CS S2 sv17 := g2
  obtain ⟨S3, f3, g3⟩ := w_search (u := 0) (bs' := 2) (sc := 2) (x := 3) (pl := 1) (o := none) h2 (by decide +kernel) (by decide +kernel)
  have e3 : X5_search S2 0 0 2 2 3 1 = some (0, (-1), S3) := f3
  have h3 : CS S3 sv17 := g3
  refine x_ci0 (x_runS C (As := [.ref (ad 32), .int 0, .int 2, .int 2, .int 3, .int 4, .int (-1), .int (-1), .int (-1)]) (rest := []) (c_L_finds_1 (by decide) (by decide) e2 e3) (cw_L_searches_L_finds C) rfl (Nat.le_of_ble_eq_true rfl) dL_searches_601 ⟨by show _ ≤ 487; omega, by show _ ≤ 4014; omega⟩) ?_
  refine x_if_eq C (t := 739) dL_searches_604 (by decide) (fun c9 => absurd c9 (by decide)) (fun _ => ?_)
  exact x_widen (by omega) (by omega) (K _ h3)
