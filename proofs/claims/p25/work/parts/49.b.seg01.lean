set_option maxHeartbeats 4000000 in
set_option maxRecDepth 100000 in
theorem svs6 {p : Program} {l : Launch} {e : Env} {s : State} {m : MethodId} {args : Array Value} {below : List Frame} {meth : Method} {c : Code} {D : va_G} {cI cZ cJ : ClassId} {ad : Nat → Nat} {S0 : St} {rest w0 : va_W} {Q : State → Prop} {kk jj : Nat} (hfl : l.stackTraces = false) (C : XC p rm_L_searches s m args meth c cL_searches 2 (some .boolean) RL wsL_searches D (t3 cI cZ cJ)) (hX : XS (va_A w0 s.heap.size) s s.heap) (hN : NC s) (h0 : CS S0 sv15) (hk : kk + 0 ≤ 487) (hj : jj + 0 ≤ 4014) (K : ∀ S', CS S' sv15 → XW p l e rm_L_searches s m args below meth c D w0 2 Q (wE cI cZ ad S' (eo ad (ad 0) (ad 7) rest)) kk jj 312 [(0, .ref (ad 32))] []) : XW p l e rm_L_searches s m args below meth c D w0 2 Q (wE cI cZ ad S0 (eo ad (ad 0) (ad 7) rest)) kk jj 279 [(0, .ref (ad 32))] [] := by
  refine x_aload_n C 0 dL_searches_279 rfl ?_
  refine x_iconst C (v := 0) dL_searches_280 (by decide) ?_
  refine x_iconst C (v := 1) dL_searches_281 (by decide) ?_
  refine x_iconst C (v := 2) dL_searches_282 (by decide) ?_
  obtain ⟨S1, f1, g1⟩ := w_holds (k := 1) (p := 2) (v := (-1)) h0 (by decide +kernel)
  have e1 : X5_holds S0 0 1 2 = some (0, (-1), S1) := f1
  have h1 : CS S1 sv15 := g1
  refine x_ci0 (x_runV C (As := [.int 0, .int 1, .int 2]) (rest := []) (c_X5_holds_ok e1) (cw_L_searches_X5_holds C) 32 rfl rfl rfl (Nat.le_of_ble_eq_true rfl) dL_searches_283 ⟨by show _ ≤ 487; omega, by show _ ≤ 4014; omega⟩) ?_
  refine x_iconst C (v := (-1)) dL_searches_286 (by decide) ?_
  refine x_icmp_ne C (t := 420) dL_searches_287 (by decide) (fun c9 => absurd c9 (by decide)) (fun _ => ?_)
  refine x_aload_n C 0 dL_searches_290 rfl ?_
  refine x_iconst C (v := 0) dL_searches_291 (by decide) ?_
  refine x_iconst C (v := 1) dL_searches_292 (by decide) ?_
  refine x_iconst C (v := 4) dL_searches_293 (by decide) ?_
  obtain ⟨S2, f2, g2⟩ := w_holds (k := 1) (p := 4) (v := 1) h1 (by decide +kernel)
  have e2 : X5_holds S1 0 1 4 = some (0, 1, S2) := f2
  have h2 : CS S2 sv15 := g2
  refine x_ci0 (x_runV C (As := [.int 0, .int 1, .int 4]) (rest := []) (c_X5_holds_ok e2) (cw_L_searches_X5_holds C) 32 rfl rfl rfl (Nat.le_of_ble_eq_true rfl) dL_searches_294 ⟨by show _ ≤ 487; omega, by show _ ≤ 4014; omega⟩) ?_
  refine x_iconst C (v := 1) dL_searches_297 (by decide) ?_
  refine x_icmp_ne C (t := 420) dL_searches_298 (by decide) (fun c9 => absurd c9 (by decide)) (fun _ => ?_)
  refine x_aload_n C 0 dL_searches_301 rfl ?_
  refine x_iconst C (v := 0) dL_searches_302 (by decide) ?_
  refine x_iconst C (v := 2) dL_searches_303 (by decide) ?_
  refine x_iconst C (v := 2) dL_searches_304 (by decide) ?_
  obtain ⟨S3, f3, g3⟩ := w_holds (k := 2) (p := 2) (v := (-1)) h2 (by decide +kernel)
  have e3 : X5_holds S2 0 2 2 = some (0, (-1), S3) := f3
  have h3 : CS S3 sv15 := g3
  refine x_ci0 (x_runV C (As := [.int 0, .int 2, .int 2]) (rest := []) (c_X5_holds_ok e3) (cw_L_searches_X5_holds C) 32 rfl rfl rfl (Nat.le_of_ble_eq_true rfl) dL_searches_305 ⟨by show _ ≤ 487; omega, by show _ ≤ 4014; omega⟩) ?_
  refine x_iconst C (v := (-1)) dL_searches_308 (by decide) ?_
  refine x_icmp_ne C (t := 420) dL_searches_309 (by decide) (fun c9 => absurd c9 (by decide)) (fun _ => ?_)
  exact x_widen (by omega) (by omega) (K _ h3)
set_option maxHeartbeats 4000000 in
set_option maxRecDepth 100000 in
theorem svs7 {p : Program} {l : Launch} {e : Env} {s : State} {m : MethodId} {args : Array Value} {below : List Frame} {meth : Method} {c : Code} {D : va_G} {cI cZ cJ : ClassId} {ad : Nat → Nat} {S0 : St} {rest w0 : va_W} {Q : State → Prop} {kk jj : Nat} (hfl : l.stackTraces = false) (C : XC p rm_L_searches s m args meth c cL_searches 2 (some .boolean) RL wsL_searches D (t3 cI cZ cJ)) (hX : XS (va_A w0 s.heap.size) s s.heap) (hN : NC s) (h0 : CS S0 sv15) (hk : kk + 0 ≤ 487) (hj : jj + 0 ≤ 4014) (K : ∀ S', CS S' sv15 → XW p l e rm_L_searches s m args below meth c D w0 2 Q (wE cI cZ ad S' (eo ad (ad 0) (ad 7) rest)) kk jj 345 [(0, .ref (ad 32))] []) : XW p l e rm_L_searches s m args below meth c D w0 2 Q (wE cI cZ ad S0 (eo ad (ad 0) (ad 7) rest)) kk jj 312 [(0, .ref (ad 32))] [] := by
  refine x_aload_n C 0 dL_searches_312 rfl ?_
  refine x_iconst C (v := 0) dL_searches_313 (by decide) ?_
  refine x_iconst C (v := 2) dL_searches_314 (by decide) ?_
  refine x_iconst C (v := 5) dL_searches_315 (by decide) ?_
  obtain ⟨S1, f1, g1⟩ := w_holds (k := 2) (p := 5) (v := 1) h0 (by decide +kernel)
  have e1 : X5_holds S0 0 2 5 = some (0, 1, S1) := f1
  have h1 : CS S1 sv15 := g1
  refine x_ci0 (x_runV C (As := [.int 0, .int 2, .int 5]) (rest := []) (c_X5_holds_ok e1) (cw_L_searches_X5_holds C) 32 rfl rfl rfl (Nat.le_of_ble_eq_true rfl) dL_searches_316 ⟨by show _ ≤ 487; omega, by show _ ≤ 4014; omega⟩) ?_
  refine x_iconst C (v := 1) dL_searches_319 (by decide) ?_
  refine x_icmp_ne C (t := 420) dL_searches_320 (by decide) (fun c9 => absurd c9 (by decide)) (fun _ => ?_)
  refine x_aload_n C 0 dL_searches_323 rfl ?_
  refine x_iconst C (v := 0) dL_searches_324 (by decide) ?_
  refine x_iconst C (v := 3) dL_searches_325 (by decide) ?_
  refine x_iconst C (v := 2) dL_searches_326 (by decide) ?_
  obtain ⟨S2, f2, g2⟩ := w_holds (k := 3) (p := 2) (v := 1) h1 (by decide +kernel)
  have e2 : X5_holds S1 0 3 2 = some (0, 1, S2) := f2
  have h2 : CS S2 sv15 := g2
  refine x_ci0 (x_runV C (As := [.int 0, .int 3, .int 2]) (rest := []) (c_X5_holds_ok e2) (cw_L_searches_X5_holds C) 32 rfl rfl rfl (Nat.le_of_ble_eq_true rfl) dL_searches_327 ⟨by show _ ≤ 487; omega, by show _ ≤ 4014; omega⟩) ?_
  refine x_iconst C (v := 1) dL_searches_330 (by decide) ?_
  refine x_icmp_ne C (t := 420) dL_searches_331 (by decide) (fun c9 => absurd c9 (by decide)) (fun _ => ?_)
  refine x_aload_n C 0 dL_searches_334 rfl ?_
  refine x_iconst C (v := 0) dL_searches_335 (by decide) ?_
  refine x_iconst C (v := 3) dL_searches_336 (by decide) ?_
  refine x_iconst C (v := 3) dL_searches_337 (by decide) ?_
  obtain ⟨S3, f3, g3⟩ := w_holds (k := 3) (p := 3) (v := (-1)) h2 (by decide +kernel)
  have e3 : X5_holds S2 0 3 3 = some (0, (-1), S3) := f3
  have h3 : CS S3 sv15 := g3
  refine x_ci0 (x_runV C (As := [.int 0, .int 3, .int 3]) (rest := []) (c_X5_holds_ok e3) (cw_L_searches_X5_holds C) 32 rfl rfl rfl (Nat.le_of_ble_eq_true rfl) dL_searches_338 ⟨by show _ ≤ 487; omega, by show _ ≤ 4014; omega⟩) ?_
  refine x_iconst C (v := (-1)) dL_searches_341 (by decide) ?_
  refine x_icmp_ne C (t := 420) dL_searches_342 (by decide) (fun c9 => absurd c9 (by decide)) (fun _ => ?_)
  exact x_widen (by omega) (by omega) (K _ h3)
set_option maxHeartbeats 4000000 in
set_option maxRecDepth 100000 in
theorem svs8 {p : Program} {l : Launch} {e : Env} {s : State} {m : MethodId} {args : Array Value} {below : List Frame} {meth : Method} {c : Code} {D : va_G} {cI cZ cJ : ClassId} {ad : Nat → Nat} {S0 : St} {rest w0 : va_W} {Q : State → Prop} {kk jj : Nat} (hfl : l.stackTraces = false) (C : XC p rm_L_searches s m args meth c cL_searches 2 (some .boolean) RL wsL_searches D (t3 cI cZ cJ)) (hX : XS (va_A w0 s.heap.size) s s.heap) (hN : NC s) (h0 : CS S0 sv15) (hk : kk + 0 ≤ 487) (hj : jj + 0 ≤ 4014) (K : ∀ S', CS S' sv15 → XW p l e rm_L_searches s m args below meth c D w0 2 Q (wE cI cZ ad S' (eo ad (ad 0) (ad 7) rest)) kk jj 377 [(0, .ref (ad 32))] []) : XW p l e rm_L_searches s m args below meth c D w0 2 Q (wE cI cZ ad S0 (eo ad (ad 0) (ad 7) rest)) kk jj 345 [(0, .ref (ad 32))] [] := by
  refine x_aload_n C 0 dL_searches_345 rfl ?_
  refine x_iconst C (v := 0) dL_searches_346 (by decide) ?_
  refine x_iconst C (v := 3) dL_searches_347 (by decide) ?_
  refine x_iconst C (v := 4) dL_searches_348 (by decide) ?_
  obtain ⟨S1, f1, g1⟩ := w_holds (k := 3) (p := 4) (v := 1) h0 (by decide +kernel)
  have e1 : X5_holds S0 0 3 4 = some (0, 1, S1) := f1
  have h1 : CS S1 sv15 := g1
  refine x_ci0 (x_runV C (As := [.int 0, .int 3, .int 4]) (rest := []) (c_X5_holds_ok e1) (cw_L_searches_X5_holds C) 32 rfl rfl rfl (Nat.le_of_ble_eq_true rfl) dL_searches_349 ⟨by show _ ≤ 487; omega, by show _ ≤ 4014; omega⟩) ?_
  refine x_iconst C (v := 1) dL_searches_352 (by decide) ?_
  refine x_icmp_ne C (t := 420) dL_searches_353 (by decide) (fun c9 => absurd c9 (by decide)) (fun _ => ?_)
  refine x_aload_n C 0 dL_searches_356 rfl ?_
  refine x_iconst C (v := 0) dL_searches_357 (by decide) ?_
  refine x_iconst C (v := 3) dL_searches_358 (by decide) ?_
  refine x_iconst C (v := 5) dL_searches_359 (by decide) ?_
  obtain ⟨S2, f2, g2⟩ := w_holds (k := 3) (p := 5) (v := 0) h1 (by decide +kernel)
  have e2 : X5_holds S1 0 3 5 = some (0, 0, S2) := f2
  have h2 : CS S2 sv15 := g2
  refine x_ci0 (x_runV C (As := [.int 0, .int 3, .int 5]) (rest := []) (c_X5_holds_ok e2) (cw_L_searches_X5_holds C) 32 rfl rfl rfl (Nat.le_of_ble_eq_true rfl) dL_searches_360 ⟨by show _ ≤ 487; omega, by show _ ≤ 4014; omega⟩) ?_
  refine x_if_ne C (t := 420) dL_searches_363 (by decide) (fun c9 => absurd c9 (by decide)) (fun _ => ?_)
  refine x_aload_n C 0 dL_searches_366 rfl ?_
  refine x_iconst C (v := 0) dL_searches_367 (by decide) ?_
  refine x_iconst C (v := 4) dL_searches_368 (by decide) ?_
  refine x_iconst C (v := 2) dL_searches_369 (by decide) ?_
  obtain ⟨S3, f3, g3⟩ := w_holds (k := 4) (p := 2) (v := (-1)) h2 (by decide +kernel)
  have e3 : X5_holds S2 0 4 2 = some (0, (-1), S3) := f3
  have h3 : CS S3 sv15 := g3
  refine x_ci0 (x_runV C (As := [.int 0, .int 4, .int 2]) (rest := []) (c_X5_holds_ok e3) (cw_L_searches_X5_holds C) 32 rfl rfl rfl (Nat.le_of_ble_eq_true rfl) dL_searches_370 ⟨by show _ ≤ 487; omega, by show _ ≤ 4014; omega⟩) ?_
  refine x_iconst C (v := (-1)) dL_searches_373 (by decide) ?_
  refine x_icmp_ne C (t := 420) dL_searches_374 (by decide) (fun c9 => absurd c9 (by decide)) (fun _ => ?_)
  exact x_widen (by omega) (by omega) (K _ h3)
set_option maxHeartbeats 4000000 in
set_option maxRecDepth 100000 in
theorem svs9 {p : Program} {l : Launch} {e : Env} {s : State} {m : MethodId} {args : Array Value} {below : List Frame} {meth : Method} {c : Code} {D : va_G} {cI cZ cJ : ClassId} {ad : Nat → Nat} {S0 : St} {rest w0 : va_W} {Q : State → Prop} {kk jj : Nat} (hfl : l.stackTraces = false) (C : XC p rm_L_searches s m args meth c cL_searches 2 (some .boolean) RL wsL_searches D (t3 cI cZ cJ)) (hX : XS (va_A w0 s.heap.size) s s.heap) (hN : NC s) (h0 : CS S0 sv15) (hk : kk + 0 ≤ 487) (hj : jj + 0 ≤ 4014) (K : ∀ S', CS S' sv15 → XW p l e rm_L_searches s m args below meth c D w0 2 Q (wE cI cZ ad S' (eo ad (ad 0) (ad 7) rest)) kk jj 409 [(0, .ref (ad 32))] []) : XW p l e rm_L_searches s m args below meth c D w0 2 Q (wE cI cZ ad S0 (eo ad (ad 0) (ad 7) rest)) kk jj 377 [(0, .ref (ad 32))] [] := by
  refine x_aload_n C 0 dL_searches_377 rfl ?_
  refine x_iconst C (v := 0) dL_searches_378 (by decide) ?_
  refine x_iconst C (v := 4) dL_searches_379 (by decide) ?_
  refine x_iconst C (v := 3) dL_searches_380 (by decide) ?_
  obtain ⟨S1, f1, g1⟩ := w_holds (k := 4) (p := 3) (v := 0) h0 (by decide +kernel)
  have e1 : X5_holds S0 0 4 3 = some (0, 0, S1) := f1
  have h1 : CS S1 sv15 := g1
  refine x_ci0 (x_runV C (As := [.int 0, .int 4, .int 3]) (rest := []) (c_X5_holds_ok e1) (cw_L_searches_X5_holds C) 32 rfl rfl rfl (Nat.le_of_ble_eq_true rfl) dL_searches_381 ⟨by show _ ≤ 487; omega, by show _ ≤ 4014; omega⟩) ?_
  refine x_if_ne C (t := 420) dL_searches_384 (by decide) (fun c9 => absurd c9 (by decide)) (fun _ => ?_)
  refine x_aload_n C 0 dL_searches_387 rfl ?_
  refine x_iconst C (v := 0) dL_searches_388 (by decide) ?_
  refine x_iconst C (v := 4) dL_searches_389 (by decide) ?_
  refine x_iconst C (v := 4) dL_searches_390 (by decide) ?_
  obtain ⟨S2, f2, g2⟩ := w_holds (k := 4) (p := 4) (v := 0) h1 (by decide +kernel)
  have e2 : X5_holds S1 0 4 4 = some (0, 0, S2) := f2
  have h2 : CS S2 sv15 := g2
  refine x_ci0 (x_runV C (As := [.int 0, .int 4, .int 4]) (rest := []) (c_X5_holds_ok e2) (cw_L_searches_X5_holds C) 32 rfl rfl rfl (Nat.le_of_ble_eq_true rfl) dL_searches_391 ⟨by show _ ≤ 487; omega, by show _ ≤ 4014; omega⟩) ?_
  refine x_if_ne C (t := 420) dL_searches_394 (by decide) (fun c9 => absurd c9 (by decide)) (fun _ => ?_)
  refine x_aload_n C 0 dL_searches_397 rfl ?_
  refine x_iconst C (v := 0) dL_searches_398 (by decide) ?_
  refine x_bipush C (v := 6) dL_searches_399 (by decide) ?_
  refine x_iconst C (v := 3) dL_searches_401 (by decide) ?_
  obtain ⟨S3, f3, g3⟩ := w_holds (k := 6) (p := 3) (v := 1) h2 (by decide +kernel)
  have e3 : X5_holds S2 0 6 3 = some (0, 1, S3) := f3
  have h3 : CS S3 sv15 := g3
  refine x_ci0 (x_runV C (As := [.int 0, .int 6, .int 3]) (rest := []) (c_X5_holds_ok e3) (cw_L_searches_X5_holds C) 32 rfl rfl rfl (Nat.le_of_ble_eq_true rfl) dL_searches_402 ⟨by show _ ≤ 487; omega, by show _ ≤ 4014; omega⟩) ?_
  refine x_iconst C (v := 1) dL_searches_405 (by decide) ?_
  refine x_icmp_ne C (t := 420) dL_searches_406 (by decide) (fun c9 => absurd c9 (by decide)) (fun _ => ?_)
  exact x_widen (by omega) (by omega) (K _ h3)
set_option maxHeartbeats 4000000 in
set_option maxRecDepth 100000 in
theorem svs10 {p : Program} {l : Launch} {e : Env} {s : State} {m : MethodId} {args : Array Value} {below : List Frame} {meth : Method} {c : Code} {D : va_G} {cI cZ cJ : ClassId} {ad : Nat → Nat} {S0 : St} {rest w0 : va_W} {Q : State → Prop} {kk jj : Nat} (hfl : l.stackTraces = false) (C : XC p rm_L_searches s m args meth c cL_searches 2 (some .boolean) RL wsL_searches D (t3 cI cZ cJ)) (hX : XS (va_A w0 s.heap.size) s s.heap) (hN : NC s) (h0 : CS S0 sv15) (hk : kk + 0 ≤ 487) (hj : jj + 0 ≤ 4014) (K : ∀ S', CS S' sv15 → XW p l e rm_L_searches s m args below meth c D w0 2 Q (wE cI cZ ad S' (eo ad (ad 0) (ad 7) rest)) kk jj 437 [(0, .ref (ad 32))] []) : XW p l e rm_L_searches s m args below meth c D w0 2 Q (wE cI cZ ad S0 (eo ad (ad 0) (ad 7) rest)) kk jj 409 [(0, .ref (ad 32))] [] := by
  refine x_aload_n C 0 dL_searches_409 rfl ?_
  refine x_iconst C (v := 0) dL_searches_410 (by decide) ?_
  refine x_bipush C (v := 6) dL_searches_411 (by decide) ?_
  refine x_iconst C (v := 2) dL_searches_413 (by decide) ?_
  obtain ⟨S1, f1, g1⟩ := w_holds (k := 6) (p := 2) (v := 0) h0 (by decide +kernel)
  have e1 : X5_holds S0 0 6 2 = some (0, 0, S1) := f1
  have h1 : CS S1 sv15 := g1
  refine x_ci0 (x_runV C (As := [.int 0, .int 6, .int 2]) (rest := []) (c_X5_holds_ok e1) (cw_L_searches_X5_holds C) 32 rfl rfl rfl (Nat.le_of_ble_eq_true rfl) dL_searches_414 ⟨by show _ ≤ 487; omega, by show _ ≤ 4014; omega⟩) ?_
  refine x_if_eq C (t := 422) dL_searches_417 (by decide) (fun _ => ?_) (fun c9 => absurd c9 (by decide))
  refine x_aload_n C 0 dL_searches_422 rfl ?_
  refine x_iconst C (v := 0) dL_searches_423 (by decide) ?_
  refine x_iconst C (v := 0) dL_searches_424 (by decide) ?_
  refine x_iconst C (v := 2) dL_searches_425 (by decide) ?_
  refine x_iconst C (v := 2) dL_searches_426 (by decide) ?_
  refine x_iconst C (v := 0) dL_searches_427 (by decide) ?_
  refine x_iconst C (v := 5) dL_searches_428 (by decide) ?_
  refine x_iconst C (v := 1) dL_searches_429 (by decide) ?_
  refine x_iconst C (v := (-1)) dL_searches_430 (by decide) ?_
  obtain ⟨S2, f2, g2⟩ := w_search (u := 0) (bs' := 0) (sc := 2) (x := 2) (pl := 0) (o := (some 0)) h1 (by decide +kernel) (by decide +kernel)
  have e2 : X5_search S1 0 0 0 2 2 0 = some (0, 0, S2) := f2
  have h2 : CS S2 sv15 := g2
  obtain ⟨S3, f3, g3⟩ := w_search (u := 0) (bs' := 0) (sc := 2) (x := 2) (pl := 1) (o := (some 5)) h2 (by decide +kernel) (by decide +kernel)
  have e3 : X5_search S2 0 0 0 2 2 1 = some (0, 5, S3) := f3
  have h3 : CS S3 sv15 := g3
  obtain ⟨S4, f4, g4⟩ := w_search (u := 0) (bs' := 0) (sc := 2) (x := 2) (pl := 2) (o := (some 1)) h3 (by decide +kernel) (by decide +kernel)
  have e4 : X5_search S3 0 0 0 2 2 2 = some (0, 1, S4) := f4
  have h4 : CS S4 sv15 := g4
  obtain ⟨S5, f5, g5⟩ := w_search (u := 0) (bs' := 0) (sc := 2) (x := 2) (pl := 3) (o := none) h4 (by decide +kernel) (by decide +kernel)
  have e5 : X5_search S4 0 0 0 2 2 3 = some (0, (-1), S5) := f5
  have h5 : CS S5 sv15 := g5
  refine x_ci0 (x_runS C (As := [.ref (ad 32), .int 0, .int 0, .int 2, .int 2, .int 0, .int 5, .int 1, .int (-1)]) (rest := []) (c_L_finds_3 (by decide) (by decide) (by decide) (by decide) e2 e3 e4 e5) (cw_L_searches_L_finds C) rfl (Nat.le_of_ble_eq_true rfl) dL_searches_431 ⟨by show _ ≤ 487; omega, by show _ ≤ 4014; omega⟩) ?_
  refine x_if_eq C (t := 739) dL_searches_434 (by decide) (fun c9 => absurd c9 (by decide)) (fun _ => ?_)
  exact x_widen (by omega) (by omega) (K _ h5)
set_option maxHeartbeats 4000000 in
set_option maxRecDepth 100000 in
theorem svs11 {p : Program} {l : Launch} {e : Env} {s : State} {m : MethodId} {args : Array Value} {below : List Frame} {meth : Method} {c : Code} {D : va_G} {cI cZ cJ : ClassId} {ad : Nat → Nat} {S0 : St} {rest w0 : va_W} {Q : State → Prop} {kk jj : Nat} (hfl : l.stackTraces = false) (C : XC p rm_L_searches s m args meth c cL_searches 2 (some .boolean) RL wsL_searches D (t3 cI cZ cJ)) (hX : XS (va_A w0 s.heap.size) s s.heap) (hN : NC s) (h0 : CS S0 sv15) (hk : kk + 0 ≤ 487) (hj : jj + 0 ≤ 4014) (K : ∀ S', CS S' sv15 → XW p l e rm_L_searches s m args below meth c D w0 2 Q (wE cI cZ ad S' (eo ad (ad 0) (ad 7) rest)) kk jj 452 [(0, .ref (ad 32))] []) : XW p l e rm_L_searches s m args below meth c D w0 2 Q (wE cI cZ ad S0 (eo ad (ad 0) (ad 7) rest)) kk jj 437 [(0, .ref (ad 32))] [] := by
  refine x_aload_n C 0 dL_searches_437 rfl ?_
  refine x_iconst C (v := 0) dL_searches_438 (by decide) ?_
  refine x_iconst C (v := 0) dL_searches_439 (by decide) ?_
  refine x_iconst C (v := 2) dL_searches_440 (by decide) ?_
  refine x_iconst C (v := 5) dL_searches_441 (by decide) ?_
  refine x_iconst C (v := 0) dL_searches_442 (by decide) ?_
  refine x_iconst C (v := 5) dL_searches_443 (by decide) ?_
  refine x_iconst C (v := 4) dL_searches_444 (by decide) ?_
  refine x_iconst C (v := 1) dL_searches_445 (by decide) ?_
  obtain ⟨S1, f1, g1⟩ := w_search (u := 0) (bs' := 0) (sc := 2) (x := 5) (pl := 0) (o := (some 0)) h0 (by decide +kernel) (by decide +kernel)
  have e1 : X5_search S0 0 0 0 2 5 0 = some (0, 0, S1) := f1
  have h1 : CS S1 sv15 := g1
  obtain ⟨S2, f2, g2⟩ := w_search (u := 0) (bs' := 0) (sc := 2) (x := 5) (pl := 1) (o := (some 5)) h1 (by decide +kernel) (by decide +kernel)
  have e2 : X5_search S1 0 0 0 2 5 1 = some (0, 5, S2) := f2
  have h2 : CS S2 sv15 := g2
  obtain ⟨S3, f3, g3⟩ := w_search (u := 0) (bs' := 0) (sc := 2) (x := 5) (pl := 2) (o := (some 4)) h2 (by decide +kernel) (by decide +kernel)
  have e3 : X5_search S2 0 0 0 2 5 2 = some (0, 4, S3) := f3
  have h3 : CS S3 sv15 := g3
  obtain ⟨S4, f4, g4⟩ := w_search (u := 0) (bs' := 0) (sc := 2) (x := 5) (pl := 3) (o := (some 1)) h3 (by decide +kernel) (by decide +kernel)
  have e4 : X5_search S3 0 0 0 2 5 3 = some (0, 1, S4) := f4
  have h4 : CS S4 sv15 := g4
  obtain ⟨S5, f5, g5⟩ := w_search (u := 0) (bs' := 0) (sc := 2) (x := 5) (pl := 4) (o := none) h4 (by decide +kernel) (by decide +kernel)
  have e5 : X5_search S4 0 0 0 2 5 4 = some (0, (-1), S5) := f5
  have h5 : CS S5 sv15 := g5
  refine x_ci0 (x_runS C (As := [.ref (ad 32), .int 0, .int 0, .int 2, .int 5, .int 0, .int 5, .int 4, .int 1]) (rest := []) (c_L_finds_4 (by decide) (by decide) (by decide) (by decide) e1 e2 e3 e4 e5) (cw_L_searches_L_finds C) rfl (Nat.le_of_ble_eq_true rfl) dL_searches_446 ⟨by show _ ≤ 487; omega, by show _ ≤ 4014; omega⟩) ?_
  refine x_if_eq C (t := 739) dL_searches_449 (by decide) (fun c9 => absurd c9 (by decide)) (fun _ => ?_)
  exact x_widen (by omega) (by omega) (K _ h5)
