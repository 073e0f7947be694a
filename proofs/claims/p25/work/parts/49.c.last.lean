set_option maxHeartbeats 4000000 in
set_option maxRecDepth 100000 in
theorem c_L_searches {l : Launch} {D : va_G} {cI cZ cJ : ClassId} (hfl : l.stackTraces = false) : ∀ sz, Met l yL_searches wsL_searches rm_L_searches (PY D (t3 cI cZ cJ) [] [] sz) (QI D (t3 cI cZ cJ) [] [] sz 1) 487 4014 (va_A [] sz) := by
  obtain ⟨fc, e1, e2⟩ := fill_ok (N := 3) (f := fun _ => 0) (v := 15) (by decide)
  obtain ⟨fr, e3, e4⟩ := fill_ok (N := 126) (f := fun _ => 0) (v := -1) (by decide)
  obtain ⟨T1, e5, -⟩ := clear_ok (tz 0)
  obtain ⟨T2, e6, -⟩ := clear_ok (tz 1)
  have h0 := init_CS e5 e6 e2 e4
  refine x_metY (Qc := fun sz => QI D (t3 cI cZ cJ) [] [] sz 1) RL rfl (by decide) rfl (Nat.le_of_ble_eq_true rfl) (fun p e s m args below meth c C hX hN => ?_)
  refine x_new C (ci := 5) (N := 6) (fs := [.null, .null, .null, .null, .null, .null]) tyX5 tyX5_ok hi_L_searches_5 (R' := RX5) (T := TX5) (by decide +kernel) (by decide +kernel) (by decide +kernel) rfl (fun x9 h9 => by rcases (show x9 = 0 ∨ x9 = 1 ∨ x9 = 2 ∨ x9 = 3 ∨ x9 = 4 ∨ x9 = 5 by omega) with rfl | rfl | rfl | rfl | rfl | rfl <;> rfl) (Nat.le_of_ble_eq_true rfl) (Nat.le_of_ble_eq_true rfl) dL_searches_0 (fun q1 => ?_)
  refine x_dup C dL_searches_3 rfl ?_
  refine x_cu (x_runI C (As := []) (rest := [.ref q1]) (c_X5_init (h0 := q1) e1 e5 e6 e3 (rest := [])) (cw_L_searches_X5_init C) rfl (Nat.le_of_ble_eq_true rfl) dL_searches_4 ⟨Nat.le_of_ble_eq_true rfl, Nat.le_of_ble_eq_true rfl⟩) (fun u => ?_)
  refine x_astore_n C (lv' := [(0, .ref q1)]) dL_searches_7 (by decide) rfl ?_
  refine x_world (w' := (wE cI cZ (adL u q1) (sE T1 T2 fc fr) (eo (adL u q1) (adL u q1 0) (adL u q1 7) []))) (wl_start (D := D) (cI := cI) (cZ := cZ)).1 ((wl_start (D := D) (cI := cI) (cZ := cZ)).2 _) ?_
  refine x_widen (k' := 33) (j' := 1290) (Nat.le_of_ble_eq_true rfl) (Nat.le_of_ble_eq_true rfl) ?_
  refine svs0 (ad := adL u q1) (rest := []) hfl C hX hN h0 (by show _ ≤ 487; omega) (by show _ ≤ 4014; omega) (fun S1 h1 => ?_)
  refine svs1 (ad := adL u q1) (rest := []) hfl C hX hN h1 (by show _ ≤ 487; omega) (by show _ ≤ 4014; omega) (fun S2 h2 => ?_)
  refine svs2 (ad := adL u q1) (rest := []) hfl C hX hN h2 (by show _ ≤ 487; omega) (by show _ ≤ 4014; omega) (fun S3 h3 => ?_)
  refine svs3 (ad := adL u q1) (rest := []) hfl C hX hN h3 (by show _ ≤ 487; omega) (by show _ ≤ 4014; omega) (fun S4 h4 => ?_)
  refine svs4 (ad := adL u q1) (rest := []) hfl C hX hN h4 (by show _ ≤ 487; omega) (by show _ ≤ 4014; omega) (fun S5 h5 => ?_)
  refine svs5 (ad := adL u q1) (rest := []) hfl C hX hN h5 (by show _ ≤ 487; omega) (by show _ ≤ 4014; omega) (fun S6 h6 => ?_)
  refine svs6 (ad := adL u q1) (rest := []) hfl C hX hN h6 (by show _ ≤ 487; omega) (by show _ ≤ 4014; omega) (fun S7 h7 => ?_)
  refine svs7 (ad := adL u q1) (rest := []) hfl C hX hN h7 (by show _ ≤ 487; omega) (by show _ ≤ 4014; omega) (fun S8 h8 => ?_)
  refine svs8 (ad := adL u q1) (rest := []) hfl C hX hN h8 (by show _ ≤ 487; omega) (by show _ ≤ 4014; omega) (fun S9 h9 => ?_)
  refine svs9 (ad := adL u q1) (rest := []) hfl C hX hN h9 (by show _ ≤ 487; omega) (by show _ ≤ 4014; omega) (fun S10 h10 => ?_)
  refine svs10 (ad := adL u q1) (rest := []) hfl C hX hN h10 (by show _ ≤ 487; omega) (by show _ ≤ 4014; omega) (fun S11 h11 => ?_)
  refine svs11 (ad := adL u q1) (rest := []) hfl C hX hN h11 (by show _ ≤ 487; omega) (by show _ ≤ 4014; omega) (fun S12 h12 => ?_)
  refine svs12 (ad := adL u q1) (rest := []) hfl C hX hN h12 (by show _ ≤ 487; omega) (by show _ ≤ 4014; omega) (fun S13 h13 => ?_)
  refine svs13 (ad := adL u q1) (rest := []) hfl C hX hN h13 (by show _ ≤ 487; omega) (by show _ ≤ 4014; omega) (fun S14 h14 => ?_)
  refine svs14 (ad := adL u q1) (rest := []) hfl C hX hN h14 (by show _ ≤ 487; omega) (by show _ ≤ 4014; omega) (fun S15 h15 => ?_)
  refine svs15 (ad := adL u q1) (rest := []) hfl C hX hN h15 (by show _ ≤ 487; omega) (by show _ ≤ 4014; omega) (fun S16 h16 => ?_)
  refine svs16 (ad := adL u q1) (rest := []) hfl C hX hN h16 (by show _ ≤ 487; omega) (by show _ ≤ 4014; omega) (fun S17 h17 => ?_)
  refine svs17 (ad := adL u q1) (rest := []) hfl C hX hN h17 (by show _ ≤ 487; omega) (by show _ ≤ 4014; omega) (fun S18 h18 => ?_)
  refine svs18 (ad := adL u q1) (rest := []) hfl C hX hN h18 (by show _ ≤ 487; omega) (by show _ ≤ 4014; omega) (fun S19 h19 => ?_)
  refine svs19 (ad := adL u q1) (rest := []) hfl C hX hN h19 (by show _ ≤ 487; omega) (by show _ ≤ 4014; omega) (fun S20 h20 => ?_)
  refine svs20 (ad := adL u q1) (rest := []) hfl C hX hN h20 (by show _ ≤ 487; omega) (by show _ ≤ 4014; omega) (fun S21 h21 => ?_)
  refine svs21 (ad := adL u q1) (rest := []) hfl C hX hN h21 (by show _ ≤ 487; omega) (by show _ ≤ 4014; omega) (fun S22 h22 => ?_)
  refine svs22 (ad := adL u q1) (rest := []) hfl C hX hN h22 (by show _ ≤ 487; omega) (by show _ ≤ 4014; omega) (fun S23 h23 => ?_)
  refine svs23 (ad := adL u q1) (rest := []) hfl C hX hN h23 (by show _ ≤ 487; omega) (by show _ ≤ 4014; omega) (fun S24 h24 => ?_)
  refine svs24 (ad := adL u q1) (rest := []) hfl C hX hN h24 (by show _ ≤ 487; omega) (by show _ ≤ 4014; omega) (fun S25 h25 => ?_)
  refine svs25 (ad := adL u q1) (rest := []) hfl C hX hN h25 (by show _ ≤ 487; omega) (by show _ ≤ 4014; omega) (fun S26 h26 => ?_)
  refine svs26 (ad := adL u q1) (rest := []) hfl C hX hN h26 (by show _ ≤ 487; omega) (by show _ ≤ 4014; omega) (fun S27 h27 => ?_)
  refine svs27 (ad := adL u q1) (rest := []) hfl C hX hN h27 (by show _ ≤ 487; omega) (by show _ ≤ 4014; omega) (fun S28 h28 => ?_)
  refine svs28 (ad := adL u q1) (rest := []) hfl C hX hN h28 (by show _ ≤ 487; omega) (by show _ ≤ 4014; omega) (fun S29 h29 => ?_)
  refine x_world (w' := []) (fun H _ k q hq => (nomatch hq)) (fun _ => ⟨fun i j p q hi => (nomatch hi), fun k q hq => (nomatch hq)⟩) ?_
  refine x_widen (k' := 487) (j' := 4014) (by omega) (by omega) ?_
  exact x_zret C (v := 1) (by decide) dL_searches_832
