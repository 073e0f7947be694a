/-! EntryMasters.isThere(II)Z -/
abbrev rm_X5_isThere (kc : Nat) : Room := rmf 8 124 kc
theorem cw_X5_isThere_X4_has_135 {p : Program} {s : State} {m : MethodId} {args : Array Value} {meth : Method} {c : Code} {D : va_G} {tys : List (ClassId × FieldType)} {R : Room} {kc : Nat} (C : XC p R s m args meth c cX5_isThere 3 (some .boolean) RX5 wsX5_isThere D tys) : CallW (rm_X5_isThere kc) s args RX5 RX4 135 yX4_has cX4_has 2 (some .boolean) wsX4_has rm_X4_has 0 0 1 := cwV 1 C.2.2.2.2.1 gX5_isThere_X4_has rfl rfl rfl (by decide +kernel) ⟨Nat.le_of_ble_eq_true rfl, Nat.le_of_ble_eq_true rfl⟩
theorem cw_X5_isThere_X5_treeOf_71 {p : Program} {s : State} {m : MethodId} {args : Array Value} {meth : Method} {c : Code} {D : va_G} {tys : List (ClassId × FieldType)} {R : Room} {kc : Nat} (C : XC p R s m args meth c cX5_isThere 3 (some .boolean) RX5 wsX5_isThere D tys) : CallW (rm_X5_isThere kc) s args RX5 RX5 71 yX5_treeOf cX5_treeOf 2 (some (.object "EntryMasters$Tree")) wsX5_treeOf (rm_X5_treeOf 0) 0 0 1 := cwV 1 C.2.2.2.2.1 gX5_isThere_X5_treeOf rfl rfl rfl (by decide +kernel) ⟨Nat.le_of_ble_eq_true rfl, Nat.le_of_ble_eq_true rfl⟩
theorem cw_X5_isThere_X5_treeOf_71_th {p : Program} {s : State} {m : MethodId} {args : Array Value} {meth : Method} {c : Code} {D : va_G} {tys : List (ClassId × FieldType)} {R : Room} {kc : Nat} {q : Nat} (C : XC p R s m args meth c cX5_isThere 3 (some .boolean) RX5 wsX5_isThere D tys) : CallW (rm_X5_isThere kc) s args RX5 RX5 71 yX5_treeOf cX5_treeOf 2 (some (.object "EntryMasters$Tree")) wsX5_treeOf (rm_X5_treeOf (q + 1)) 1 6 1 := cwV 1 C.2.2.2.2.1 gX5_isThere_X5_treeOf rfl rfl rfl (by decide +kernel) ⟨Nat.le_of_ble_eq_true rfl, Nat.le_of_ble_eq_true rfl⟩
def X5_isThere_b5 (S : St) (x2 : Int32) : Option (Nat × Int32) :=
  (X4_has S x2).bind fun v6 => if v6 &&& 1 = v6 then (some (0, v6)) else none
set_option maxHeartbeats 4000000 in
set_option maxRecDepth 100000 in
theorem X_X5_isThere_b5 {p : Program} {l : Launch} {e : Env} {s : State} {m : MethodId} {args : Array Value} {below : List Frame} {meth : Method} {c : Code} {D : va_G} {cI cZ cJ : ClassId} {ad : Nat → Nat} {rest w0 : va_W} {x y : Nat} {z : Nat × Int32} (C : XC p (rm_X5_isThere z.1) s m args meth c cX5_isThere 3 (some .boolean) RX5 wsX5_isThere D (t3 cI cZ cJ)) (T : z.1 ≠ 0 → XT l s c w0) {S : St} {x2 : Int32} (h : X5_isThere_b5 S x2 = some z) : XW p l e (rm_X5_isThere z.1) s m args below meth c D w0 3 (QZ z.1 (MQ below (QI D (t3 cI cZ cJ) w0 (wE cI cZ ad S (eo ad x y rest)) s.heap.size z.2) args s 0 0 (va_A w0 s.heap.size)) (fun q9 => vx_MQ below nQ (XX D (t3 cI cZ cJ) w0 (wE cI cZ ad S (eo ad x y rest)) s.heap.size (exN q9)) args s 1 6 (va_A w0 s.heap.size))) (wE cI cZ ad S (eo ad x y rest)) 0 0 5 [(2, .int x2)] [.ref (ad 0)] := by
  unfold X5_isThere_b5 at h
  refine x_iload_n C 0 dX5_isThere_5 rfl ?_
  obtain ⟨v6, hg6, h⟩ := ob h
  refine x_ci0 (x_runV C (As := [.int x2]) (rest := []) (c_X4_has hg6) (cw_X5_isThere_X4_has_135 C) 0 rfl rfl rfl (Nat.le_of_ble_eq_true rfl) dX5_isThere_6 ⟨Nat.zero_le _, Nat.zero_le _⟩) ?_
  obtain ⟨g9, h⟩ := gd h
  obtain rfl := Option.some.inj h
  exact x_zret C g9 dX5_isThere_9
def X5_isThere (S : St) (x1 x2 : Int32) : Option (Nat × Int32) :=
  (X5_treeOf S x1).bind fun q2 => if q2.1 = 0 then (bif q2.2 then (X5_isThere_b5 (swS S) x2) else (X5_isThere_b5 S x2)) else some (q2.1, 0)
set_option maxHeartbeats 4000000 in
set_option maxRecDepth 100000 in
theorem X_X5_isThere {p : Program} {l : Launch} {e : Env} {s : State} {m : MethodId} {args : Array Value} {below : List Frame} {meth : Method} {c : Code} {D : va_G} {cI cZ cJ : ClassId} {ad : Nat → Nat} {rest w0 : va_W} {z : Nat × Int32} (C : XC p (rm_X5_isThere z.1) s m args meth c cX5_isThere 3 (some .boolean) RX5 wsX5_isThere D (t3 cI cZ cJ)) (T : z.1 ≠ 0 → XT l s c w0) {S : St} {x1 x2 : Int32} (h : X5_isThere S x1 x2 = some z) : XW p l e (rm_X5_isThere z.1) s m args below meth c D w0 3 (QZ z.1 (MQ below (QI D (t3 cI cZ cJ) w0 (wE cI cZ ad S (eo ad (ad 0) (ad 7) rest)) s.heap.size z.2) args s 0 0 (va_A w0 s.heap.size)) (fun q9 => vx_MQ below nQ (XX D (t3 cI cZ cJ) w0 (wE cI cZ ad S (eo ad (ad 0) (ad 7) rest)) s.heap.size (exN q9)) args s 1 6 (va_A w0 s.heap.size))) (wE cI cZ ad S (eo ad (ad 0) (ad 7) rest)) 0 0 0 [(0, .ref (ad 32)), (1, .int x1), (2, .int x2)] [] := by
  unfold X5_isThere at h
  refine x_aload_n C 0 dX5_isThere_0 rfl ?_
  refine x_iload_n C 1 dX5_isThere_1 rfl ?_
  obtain ⟨⟨q2, b2⟩, hg2, h⟩ := ob h
  cases q2 with
  | zero =>
    replace h := (if_pos (c := (0 : Nat) = 0) rfl).symm.trans h
    refine x_cr0 (x_runV C (As := [.int x1]) (rest := []) (c_X5_treeOf_ok hg2) (cw_X5_isThere_X5_treeOf_71 C) 32 rfl rfl rfl (Nat.le_of_ble_eq_true rfl) dX5_isThere_2 ⟨Nat.zero_le _, Nat.zero_le _⟩) ?_
    refine x_locals (lv' := [(2, .int x2)]) [2] rfl ?_
    cases b2 with
    | false => exact X_X5_isThere_b5 (x := ad 0) (y := ad 7) C T h
    | true =>
      refine x_world (w' := wE cI cZ (swA ad) (swS S) (eo (swA ad) (ad 0) (ad 7) rest)) (wl_sw (D := D)).1 ((wl_sw (D := D)).2 _) ?_
      exact x_mono (QZI.mono wl_unsw0) (X_X5_isThere_b5 (ad := swA ad) (x := ad 0) (y := ad 7) C T h)
  | succ q2 =>
    replace h := (if_neg (Nat.succ_ne_zero q2)).symm.trans h
    obtain rfl := Option.some.inj h
    exact x_cx C (T (Nat.succ_ne_zero _)) (x_runVX C (T (Nat.succ_ne_zero _)).2.2 (As := [.int x1]) (rest := []) (c_X5_treeOf_th (T (Nat.succ_ne_zero _)).1 hg2) (cw_X5_isThere_X5_treeOf_71_th C) 32 rfl rfl rfl (Nat.le_of_ble_eq_true rfl) dX5_isThere_2 ⟨Nat.le_refl _, Nat.le_refl _⟩)
set_option maxRecDepth 100000 in
theorem c_X5_isThere_ok {l : Launch} {D : va_G} {cI cZ cJ : ClassId} {ad : Nat → Nat} {S : St} {rest : va_W} {x1 x2 : Int32} {v : Int32} (h : X5_isThere S x1 x2 = some (0, v)) : ∀ sz, Met l yX5_isThere wsX5_isThere (rm_X5_isThere 0) (PC D (t3 cI cZ cJ) [.ref (ad 32), .int x1, .int x2] (wE cI cZ ad S (eo ad (ad 0) (ad 7) rest)) sz) (QI D (t3 cI cZ cJ) (wE cI cZ ad S (eo ad (ad 0) (ad 7) rest)) (wE cI cZ ad S (eo ad (ad 0) (ad 7) rest)) sz v) 0 0 (va_A (wE cI cZ ad S (eo ad (ad 0) (ad 7) rest)) sz) := by
  refine x_met (Qc := fun sz => QI D (t3 cI cZ cJ) (wE cI cZ ad S (eo ad (ad 0) (ad 7) rest)) (wE cI cZ ad S (eo ad (ad 0) (ad 7) rest)) sz v) RX5 rfl (by decide) rfl (Nat.le_of_ble_eq_true rfl) (fun p e s m args below meth c C => ?_)
  exact X_X5_isThere (z := (0, v)) C (fun h9 => (h9 rfl).elim) h
set_option maxRecDepth 100000 in
theorem c_X5_isThere_th {l : Launch} {D : va_G} {cI cZ cJ : ClassId} {ad : Nat → Nat} {S : St} {rest : va_W} {x1 x2 : Int32} {v : Int32} {q : Nat} (hfl : l.stackTraces = false) (h : X5_isThere S x1 x2 = some ((q + 1), v)) : ∀ sz, vx_Met l yX5_isThere wsX5_isThere (rm_X5_isThere (q + 1)) (PX D (t3 cI cZ cJ) [.ref (ad 32), .int x1, .int x2] (wE cI cZ ad S (eo ad (ad 0) (ad 7) rest)) sz) nQ (XX D (t3 cI cZ cJ) (wE cI cZ ad S (eo ad (ad 0) (ad 7) rest)) (wE cI cZ ad S (eo ad (ad 0) (ad 7) rest)) sz (exN q)) 1 6 (va_A (wE cI cZ ad S (eo ad (ad 0) (ad 7) rest)) sz) := by
  refine x_metX hfl (XCf := fun sz => XX D (t3 cI cZ cJ) (wE cI cZ ad S (eo ad (ad 0) (ad 7) rest)) (wE cI cZ ad S (eo ad (ad 0) (ad 7) rest)) sz (exN q)) RX5 rfl (by decide) rfl (Nat.le_of_ble_eq_true rfl) (fun p e s m args below meth c C T => ?_)
  exact X_X5_isThere (z := (q + 1, v)) C (fun _ => T) h
/-! EntryMasters.parentOf(II)I -/
abbrev rm_X5_parentOf (kc : Nat) : Room := rmf 8 124 kc
theorem cw_X5_parentOf_X4_parentAt_116 {p : Program} {s : State} {m : MethodId} {args : Array Value} {meth : Method} {c : Code} {D : va_G} {tys : List (ClassId × FieldType)} {R : Room} {kc : Nat} (C : XC p R s m args meth c cX5_parentOf 4 (some .int) RX5 wsX5_parentOf D tys) : CallW (rm_X5_parentOf kc) s args RX5 RX4 116 yX4_parentAt cX4_parentAt 2 (some .int) wsX4_parentAt rm_X4_parentAt 0 0 1 := cwV 1 C.2.2.2.2.1 gX5_parentOf_X4_parentAt rfl rfl rfl (by decide +kernel) ⟨Nat.le_of_ble_eq_true rfl, Nat.le_of_ble_eq_true rfl⟩
theorem cw_X5_parentOf_X5_checkEntry_75 {p : Program} {s : State} {m : MethodId} {args : Array Value} {meth : Method} {c : Code} {D : va_G} {tys : List (ClassId × FieldType)} {R : Room} {kc : Nat} (C : XC p R s m args meth c cX5_parentOf 4 (some .int) RX5 wsX5_parentOf D tys) : CallB (rm_X5_parentOf kc) s args RX5 75 yX5_checkEntry cX5_checkEntry 2 none wsX5_checkEntry (rm_X5_checkEntry 0) 0 0 2 ∧ (Cond.static yX5_checkEntry).before args s = true := va_cwS 2 C.2.2.2.2.1 gX5_parentOf_X5_checkEntry rfl rfl rfl (by decide +kernel) ⟨Nat.le_of_ble_eq_true rfl, Nat.le_of_ble_eq_true rfl⟩
theorem cw_X5_parentOf_X5_checkEntry_75_th {p : Program} {s : State} {m : MethodId} {args : Array Value} {meth : Method} {c : Code} {D : va_G} {tys : List (ClassId × FieldType)} {R : Room} {kc : Nat} {q : Nat} (C : XC p R s m args meth c cX5_parentOf 4 (some .int) RX5 wsX5_parentOf D tys) : CallB (rm_X5_parentOf kc) s args RX5 75 yX5_checkEntry cX5_checkEntry 2 none wsX5_checkEntry (rm_X5_checkEntry (q + 1)) 1 6 2 ∧ (Cond.static yX5_checkEntry).before args s = true := va_cwS 2 C.2.2.2.2.1 gX5_parentOf_X5_checkEntry rfl rfl rfl (by decide +kernel) ⟨Nat.le_of_ble_eq_true rfl, Nat.le_of_ble_eq_true rfl⟩
theorem cw_X5_parentOf_X5_treeOf_71 {p : Program} {s : State} {m : MethodId} {args : Array Value} {meth : Method} {c : Code} {D : va_G} {tys : List (ClassId × FieldType)} {R : Room} {kc : Nat} (C : XC p R s m args meth c cX5_parentOf 4 (some .int) RX5 wsX5_parentOf D tys) : CallW (rm_X5_parentOf kc) s args RX5 RX5 71 yX5_treeOf cX5_treeOf 2 (some (.object "EntryMasters$Tree")) wsX5_treeOf (rm_X5_treeOf 0) 0 0 1 := cwV 1 C.2.2.2.2.1 gX5_parentOf_X5_treeOf rfl rfl rfl (by decide +kernel) ⟨Nat.le_of_ble_eq_true rfl, Nat.le_of_ble_eq_true rfl⟩
theorem cw_X5_parentOf_X5_treeOf_71_th {p : Program} {s : State} {m : MethodId} {args : Array Value} {meth : Method} {c : Code} {D : va_G} {tys : List (ClassId × FieldType)} {R : Room} {kc : Nat} {q : Nat} (C : XC p R s m args meth c cX5_parentOf 4 (some .int) RX5 wsX5_parentOf D tys) : CallW (rm_X5_parentOf kc) s args RX5 RX5 71 yX5_treeOf cX5_treeOf 2 (some (.object "EntryMasters$Tree")) wsX5_treeOf (rm_X5_treeOf (q + 1)) 1 6 1 := cwV 1 C.2.2.2.2.1 gX5_parentOf_X5_treeOf rfl rfl rfl (by decide +kernel) ⟨Nat.le_of_ble_eq_true rfl, Nat.le_of_ble_eq_true rfl⟩
def X5_parentOf_b5 (S : St) (x2 : Int32) : Option (Nat × Int32) :=
  (X5_checkEntry S x2).bind fun q8 => if q8 = 0 then ((X4_parentAt S x2).bind fun v13 => some (0, v13)) else some (q8, 0)
set_option maxHeartbeats 4000000 in
set_option maxRecDepth 100000 in
theorem X_X5_parentOf_b5 {p : Program} {l : Launch} {e : Env} {s : State} {m : MethodId} {args : Array Value} {below : List Frame} {meth : Method} {c : Code} {D : va_G} {cI cZ cJ : ClassId} {ad : Nat → Nat} {rest w0 : va_W} {x y : Nat} {z : Nat × Int32} (C : XC p (rm_X5_parentOf z.1) s m args meth c cX5_parentOf 4 (some .int) RX5 wsX5_parentOf D (t3 cI cZ cJ)) (T : z.1 ≠ 0 → XT l s c w0) {S : St} {x2 : Int32} (h : X5_parentOf_b5 S x2 = some z) : XW p l e (rm_X5_parentOf z.1) s m args below meth c D w0 4 (QZ z.1 (MQ below (QI D (t3 cI cZ cJ) w0 (wE cI cZ ad S (eo ad x y rest)) s.heap.size z.2) args s 0 0 (va_A w0 s.heap.size)) (fun q9 => vx_MQ below nQ (XX D (t3 cI cZ cJ) w0 (wE cI cZ ad S (eo ad x y rest)) s.heap.size (exN q9)) args s 1 6 (va_A w0 s.heap.size))) (wE cI cZ ad S (eo ad x y rest)) 0 0 5 [(2, .int x2)] [.ref (ad 0)] := by
  unfold X5_parentOf_b5 at h
  refine x_astore_n C (lv' := [(2, .int x2), (3, .ref (ad 0))]) dX5_parentOf_5 (by decide) rfl ?_
  refine x_aload_n C 1 dX5_parentOf_6 rfl ?_
  refine x_iload_n C 0 dX5_parentOf_7 rfl ?_
  obtain ⟨q8, hg8, h⟩ := ob h
  cases q8 with
  | zero =>
    replace h := (if_pos (c := (0 : Nat) = 0) rfl).symm.trans h
    refine x_cv0 (x_runS C (As := [.ref (ad 0), .int x2]) (rest := []) (c_X5_checkEntry_ok hg8) (cw_X5_parentOf_X5_checkEntry_75 C) rfl (Nat.le_of_ble_eq_true rfl) dX5_parentOf_8 ⟨Nat.zero_le _, Nat.zero_le _⟩) ?_
    refine x_aload_n C 1 dX5_parentOf_11 rfl ?_
    refine x_iload_n C 0 dX5_parentOf_12 rfl ?_
    obtain ⟨v13, hg13, h⟩ := ob h
    refine x_ci0 (x_runV C (As := [.int x2]) (rest := []) (c_X4_parentAt hg13) (cw_X5_parentOf_X4_parentAt_116 C) 0 rfl rfl rfl (Nat.le_of_ble_eq_true rfl) dX5_parentOf_13 ⟨Nat.zero_le _, Nat.zero_le _⟩) ?_
    obtain rfl := Option.some.inj h
    exact x_iret C (v := v13) dX5_parentOf_16
  | succ q8 =>
    replace h := (if_neg (Nat.succ_ne_zero q8)).symm.trans h
    obtain rfl := Option.some.inj h
    exact x_cx C (T (Nat.succ_ne_zero _)) (x_runSX C (T (Nat.succ_ne_zero _)).2.2 (As := [.ref (ad 0), .int x2]) (rest := []) (c_X5_checkEntry_th (T (Nat.succ_ne_zero _)).1 hg8) (cw_X5_parentOf_X5_checkEntry_75_th C) rfl (Nat.le_of_ble_eq_true rfl) dX5_parentOf_8 ⟨Nat.le_refl _, Nat.le_refl _⟩)
def X5_parentOf (S : St) (x1 x2 : Int32) : Option (Nat × Int32) :=
  (X5_treeOf S x1).bind fun q2 => if q2.1 = 0 then (bif q2.2 then (X5_parentOf_b5 (swS S) x2) else (X5_parentOf_b5 S x2)) else some (q2.1, 0)
set_option maxHeartbeats 4000000 in
set_option maxRecDepth 100000 in
theorem X_X5_parentOf {p : Program} {l : Launch} {e : Env} {s : State} {m : MethodId} {args : Array Value} {below : List Frame} {meth : Method} {c : Code} {D : va_G} {cI cZ cJ : ClassId} {ad : Nat → Nat} {rest w0 : va_W} {z : Nat × Int32} (C : XC p (rm_X5_parentOf z.1) s m args meth c cX5_parentOf 4 (some .int) RX5 wsX5_parentOf D (t3 cI cZ cJ)) (T : z.1 ≠ 0 → XT l s c w0) {S : St} {x1 x2 : Int32} (h : X5_parentOf S x1 x2 = some z) : XW p l e (rm_X5_parentOf z.1) s m args below meth c D w0 4 (QZ z.1 (MQ below (QI D (t3 cI cZ cJ) w0 (wE cI cZ ad S (eo ad (ad 0) (ad 7) rest)) s.heap.size z.2) args s 0 0 (va_A w0 s.heap.size)) (fun q9 => vx_MQ below nQ (XX D (t3 cI cZ cJ) w0 (wE cI cZ ad S (eo ad (ad 0) (ad 7) rest)) s.heap.size (exN q9)) args s 1 6 (va_A w0 s.heap.size))) (wE cI cZ ad S (eo ad (ad 0) (ad 7) rest)) 0 0 0 [(0, .ref (ad 32)), (1, .int x1), (2, .int x2)] [] := by
  unfold X5_parentOf at h
  refine x_aload_n C 0 dX5_parentOf_0 rfl ?_
  refine x_iload_n C 1 dX5_parentOf_1 rfl ?_
  obtain ⟨⟨q2, b2⟩, hg2, h⟩ := ob h
  cases q2 with
  | zero =>
    replace h := (if_pos (c := (0 : Nat) = 0) rfl).symm.trans h
    refine x_cr0 (x_runV C (As := [.int x1]) (rest := []) (c_X5_treeOf_ok hg2) (cw_X5_parentOf_X5_treeOf_71 C) 32 rfl rfl rfl (Nat.le_of_ble_eq_true rfl) dX5_parentOf_2 ⟨Nat.zero_le _, Nat.zero_le _⟩) ?_
    refine x_locals (lv' := [(2, .int x2)]) [2] rfl ?_
    cases b2 with
    | false => exact X_X5_parentOf_b5 (x := ad 0) (y := ad 7) C T h
    | true =>
      refine x_world (w' := wE cI cZ (swA ad) (swS S) (eo (swA ad) (ad 0) (ad 7) rest)) (wl_sw (D := D)).1 ((wl_sw (D := D)).2 _) ?_
      exact x_mono (QZI.mono wl_unsw0) (X_X5_parentOf_b5 (ad := swA ad) (x := ad 0) (y := ad 7) C T h)
  | succ q2 =>
    replace h := (if_neg (Nat.succ_ne_zero q2)).symm.trans h
    obtain rfl := Option.some.inj h
    exact x_cx C (T (Nat.succ_ne_zero _)) (x_runVX C (T (Nat.succ_ne_zero _)).2.2 (As := [.int x1]) (rest := []) (c_X5_treeOf_th (T (Nat.succ_ne_zero _)).1 hg2) (cw_X5_parentOf_X5_treeOf_71_th C) 32 rfl rfl rfl (Nat.le_of_ble_eq_true rfl) dX5_parentOf_2 ⟨Nat.le_refl _, Nat.le_refl _⟩)
set_option maxRecDepth 100000 in
theorem c_X5_parentOf_ok {l : Launch} {D : va_G} {cI cZ cJ : ClassId} {ad : Nat → Nat} {S : St} {rest : va_W} {x1 x2 : Int32} {v : Int32} (h : X5_parentOf S x1 x2 = some (0, v)) : ∀ sz, Met l yX5_parentOf wsX5_parentOf (rm_X5_parentOf 0) (PC D (t3 cI cZ cJ) [.ref (ad 32), .int x1, .int x2] (wE cI cZ ad S (eo ad (ad 0) (ad 7) rest)) sz) (QI D (t3 cI cZ cJ) (wE cI cZ ad S (eo ad (ad 0) (ad 7) rest)) (wE cI cZ ad S (eo ad (ad 0) (ad 7) rest)) sz v) 0 0 (va_A (wE cI cZ ad S (eo ad (ad 0) (ad 7) rest)) sz) := by
  refine x_met (Qc := fun sz => QI D (t3 cI cZ cJ) (wE cI cZ ad S (eo ad (ad 0) (ad 7) rest)) (wE cI cZ ad S (eo ad (ad 0) (ad 7) rest)) sz v) RX5 rfl (by decide) rfl (Nat.le_of_ble_eq_true rfl) (fun p e s m args below meth c C => ?_)
  exact X_X5_parentOf (z := (0, v)) C (fun h9 => (h9 rfl).elim) h
set_option maxRecDepth 100000 in
theorem c_X5_parentOf_th {l : Launch} {D : va_G} {cI cZ cJ : ClassId} {ad : Nat → Nat} {S : St} {rest : va_W} {x1 x2 : Int32} {v : Int32} {q : Nat} (hfl : l.stackTraces = false) (h : X5_parentOf S x1 x2 = some ((q + 1), v)) : ∀ sz, vx_Met l yX5_parentOf wsX5_parentOf (rm_X5_parentOf (q + 1)) (PX D (t3 cI cZ cJ) [.ref (ad 32), .int x1, .int x2] (wE cI cZ ad S (eo ad (ad 0) (ad 7) rest)) sz) nQ (XX D (t3 cI cZ cJ) (wE cI cZ ad S (eo ad (ad 0) (ad 7) rest)) (wE cI cZ ad S (eo ad (ad 0) (ad 7) rest)) sz (exN q)) 1 6 (va_A (wE cI cZ ad S (eo ad (ad 0) (ad 7) rest)) sz) := by
  refine x_metX hfl (XCf := fun sz => XX D (t3 cI cZ cJ) (wE cI cZ ad S (eo ad (ad 0) (ad 7) rest)) (wE cI cZ ad S (eo ad (ad 0) (ad 7) rest)) sz (exN q)) RX5 rfl (by decide) rfl (Nat.le_of_ble_eq_true rfl) (fun p e s m args below meth c C T => ?_)
  exact X_X5_parentOf (z := (q + 1, v)) C (fun _ => T) h
/-! EntryMasters.labelOf(II)I -/
abbrev rm_X5_labelOf (kc : Nat) : Room := rmf 8 124 kc
theorem cw_X5_labelOf_X4_labelAt_138 {p : Program} {s : State} {m : MethodId} {args : Array Value} {meth : Method} {c : Code} {D : va_G} {tys : List (ClassId × FieldType)} {R : Room} {kc : Nat} (C : XC p R s m args meth c cX5_labelOf 4 (some .int) RX5 wsX5_labelOf D tys) : CallW (rm_X5_labelOf kc) s args RX5 RX4 138 yX4_labelAt cX4_labelAt 2 (some .int) wsX4_labelAt rm_X4_labelAt 0 0 1 := cwV 1 C.2.2.2.2.1 gX5_labelOf_X4_labelAt rfl rfl rfl (by decide +kernel) ⟨Nat.le_of_ble_eq_true rfl, Nat.le_of_ble_eq_true rfl⟩
theorem cw_X5_labelOf_X5_checkEntry_75 {p : Program} {s : State} {m : MethodId} {args : Array Value} {meth : Method} {c : Code} {D : va_G} {tys : List (ClassId × FieldType)} {R : Room} {kc : Nat} (C : XC p R s m args meth c cX5_labelOf 4 (some .int) RX5 wsX5_labelOf D tys) : CallB (rm_X5_labelOf kc) s args RX5 75 yX5_checkEntry cX5_checkEntry 2 none wsX5_checkEntry (rm_X5_checkEntry 0) 0 0 2 ∧ (Cond.static yX5_checkEntry).before args s = true := va_cwS 2 C.2.2.2.2.1 gX5_labelOf_X5_checkEntry rfl rfl rfl (by decide +kernel) ⟨Nat.le_of_ble_eq_true rfl, Nat.le_of_ble_eq_true rfl⟩
theorem cw_X5_labelOf_X5_checkEntry_75_th {p : Program} {s : State} {m : MethodId} {args : Array Value} {meth : Method} {c : Code} {D : va_G} {tys : List (ClassId × FieldType)} {R : Room} {kc : Nat} {q : Nat} (C : XC p R s m args meth c cX5_labelOf 4 (some .int) RX5 wsX5_labelOf D tys) : CallB (rm_X5_labelOf kc) s args RX5 75 yX5_checkEntry cX5_checkEntry 2 none wsX5_checkEntry (rm_X5_checkEntry (q + 1)) 1 6 2 ∧ (Cond.static yX5_checkEntry).before args s = true := va_cwS 2 C.2.2.2.2.1 gX5_labelOf_X5_checkEntry rfl rfl rfl (by decide +kernel) ⟨Nat.le_of_ble_eq_true rfl, Nat.le_of_ble_eq_true rfl⟩
theorem cw_X5_labelOf_X5_treeOf_71 {p : Program} {s : State} {m : MethodId} {args : Array Value} {meth : Method} {c : Code} {D : va_G} {tys : List (ClassId × FieldType)} {R : Room} {kc : Nat} (C : XC p R s m args meth c cX5_labelOf 4 (some .int) RX5 wsX5_labelOf D tys) : CallW (rm_X5_labelOf kc) s args RX5 RX5 71 yX5_treeOf cX5_treeOf 2 (some (.object "EntryMasters$Tree")) wsX5_treeOf (rm_X5_treeOf 0) 0 0 1 := cwV 1 C.2.2.2.2.1 gX5_labelOf_X5_treeOf rfl rfl rfl (by decide +kernel) ⟨Nat.le_of_ble_eq_true rfl, Nat.le_of_ble_eq_true rfl⟩
theorem cw_X5_labelOf_X5_treeOf_71_th {p : Program} {s : State} {m : MethodId} {args : Array Value} {meth : Method} {c : Code} {D : va_G} {tys : List (ClassId × FieldType)} {R : Room} {kc : Nat} {q : Nat} (C : XC p R s m args meth c cX5_labelOf 4 (some .int) RX5 wsX5_labelOf D tys) : CallW (rm_X5_labelOf kc) s args RX5 RX5 71 yX5_treeOf cX5_treeOf 2 (some (.object "EntryMasters$Tree")) wsX5_treeOf (rm_X5_treeOf (q + 1)) 1 6 1 := cwV 1 C.2.2.2.2.1 gX5_labelOf_X5_treeOf rfl rfl rfl (by decide +kernel) ⟨Nat.le_of_ble_eq_true rfl, Nat.le_of_ble_eq_true rfl⟩
def X5_labelOf_b5 (S : St) (x2 : Int32) : Option (Nat × Int32) :=
  (X5_checkEntry S x2).bind fun q8 => if q8 = 0 then ((X4_labelAt S x2).bind fun v13 => some (0, v13)) else some (q8, 0)
set_option maxHeartbeats 4000000 in
set_option maxRecDepth 100000 in
theorem X_X5_labelOf_b5 {p : Program} {l : Launch} {e : Env} {s : State} {m : MethodId} {args : Array Value} {below : List Frame} {meth : Method} {c : Code} {D : va_G} {cI cZ cJ : ClassId} {ad : Nat → Nat} {rest w0 : va_W} {x y : Nat} {z : Nat × Int32} (C : XC p (rm_X5_labelOf z.1) s m args meth c cX5_labelOf 4 (some .int) RX5 wsX5_labelOf D (t3 cI cZ cJ)) (T : z.1 ≠ 0 → XT l s c w0) {S : St} {x2 : Int32} (h : X5_labelOf_b5 S x2 = some z) : XW p l e (rm_X5_labelOf z.1) s m args below meth c D w0 4 (QZ z.1 (MQ below (QI D (t3 cI cZ cJ) w0 (wE cI cZ ad S (eo ad x y rest)) s.heap.size z.2) args s 0 0 (va_A w0 s.heap.size)) (fun q9 => vx_MQ below nQ (XX D (t3 cI cZ cJ) w0 (wE cI cZ ad S (eo ad x y rest)) s.heap.size (exN q9)) args s 1 6 (va_A w0 s.heap.size))) (wE cI cZ ad S (eo ad x y rest)) 0 0 5 [(2, .int x2)] [.ref (ad 0)] := by
  unfold X5_labelOf_b5 at h
  refine x_astore_n C (lv' := [(2, .int x2), (3, .ref (ad 0))]) dX5_labelOf_5 (by decide) rfl ?_
  refine x_aload_n C 1 dX5_labelOf_6 rfl ?_
  refine x_iload_n C 0 dX5_labelOf_7 rfl ?_
  obtain ⟨q8, hg8, h⟩ := ob h
  cases q8 with
  | zero =>
    replace h := (if_pos (c := (0 : Nat) = 0) rfl).symm.trans h
    refine x_cv0 (x_runS C (As := [.ref (ad 0), .int x2]) (rest := []) (c_X5_checkEntry_ok hg8) (cw_X5_labelOf_X5_checkEntry_75 C) rfl (Nat.le_of_ble_eq_true rfl) dX5_labelOf_8 ⟨Nat.zero_le _, Nat.zero_le _⟩) ?_
    refine x_aload_n C 1 dX5_labelOf_11 rfl ?_
    refine x_iload_n C 0 dX5_labelOf_12 rfl ?_
    obtain ⟨v13, hg13, h⟩ := ob h
    refine x_ci0 (x_runV C (As := [.int x2]) (rest := []) (c_X4_labelAt hg13) (cw_X5_labelOf_X4_labelAt_138 C) 0 rfl rfl rfl (Nat.le_of_ble_eq_true rfl) dX5_labelOf_13 ⟨Nat.zero_le _, Nat.zero_le _⟩) ?_
    obtain rfl := Option.some.inj h
    exact x_iret C (v := v13) dX5_labelOf_16
  | succ q8 =>
    replace h := (if_neg (Nat.succ_ne_zero q8)).symm.trans h
    obtain rfl := Option.some.inj h
    exact x_cx C (T (Nat.succ_ne_zero _)) (x_runSX C (T (Nat.succ_ne_zero _)).2.2 (As := [.ref (ad 0), .int x2]) (rest := []) (c_X5_checkEntry_th (T (Nat.succ_ne_zero _)).1 hg8) (cw_X5_labelOf_X5_checkEntry_75_th C) rfl (Nat.le_of_ble_eq_true rfl) dX5_labelOf_8 ⟨Nat.le_refl _, Nat.le_refl _⟩)
def X5_labelOf (S : St) (x1 x2 : Int32) : Option (Nat × Int32) :=
  (X5_treeOf S x1).bind fun q2 => if q2.1 = 0 then (bif q2.2 then (X5_labelOf_b5 (swS S) x2) else (X5_labelOf_b5 S x2)) else some (q2.1, 0)
set_option maxHeartbeats 4000000 in
set_option maxRecDepth 100000 in
theorem X_X5_labelOf {p : Program} {l : Launch} {e : Env} {s : State} {m : MethodId} {args : Array Value} {below : List Frame} {meth : Method} {c : Code} {D : va_G} {cI cZ cJ : ClassId} {ad : Nat → Nat} {rest w0 : va_W} {z : Nat × Int32} (C : XC p (rm_X5_labelOf z.1) s m args meth c cX5_labelOf 4 (some .int) RX5 wsX5_labelOf D (t3 cI cZ cJ)) (T : z.1 ≠ 0 → XT l s c w0) {S : St} {x1 x2 : Int32} (h : X5_labelOf S x1 x2 = some z) : XW p l e (rm_X5_labelOf z.1) s m args below meth c D w0 4 (QZ z.1 (MQ below (QI D (t3 cI cZ cJ) w0 (wE cI cZ ad S (eo ad (ad 0) (ad 7) rest)) s.heap.size z.2) args s 0 0 (va_A w0 s.heap.size)) (fun q9 => vx_MQ below nQ (XX D (t3 cI cZ cJ) w0 (wE cI cZ ad S (eo ad (ad 0) (ad 7) rest)) s.heap.size (exN q9)) args s 1 6 (va_A w0 s.heap.size))) (wE cI cZ ad S (eo ad (ad 0) (ad 7) rest)) 0 0 0 [(0, .ref (ad 32)), (1, .int x1), (2, .int x2)] [] := by
  unfold X5_labelOf at h
  refine x_aload_n C 0 dX5_labelOf_0 rfl ?_
  refine x_iload_n C 1 dX5_labelOf_1 rfl ?_
  obtain ⟨⟨q2, b2⟩, hg2, h⟩ := ob h
  cases q2 with
  | zero =>
    replace h := (if_pos (c := (0 : Nat) = 0) rfl).symm.trans h
    refine x_cr0 (x_runV C (As := [.int x1]) (rest := []) (c_X5_treeOf_ok hg2) (cw_X5_labelOf_X5_treeOf_71 C) 32 rfl rfl rfl (Nat.le_of_ble_eq_true rfl) dX5_labelOf_2 ⟨Nat.zero_le _, Nat.zero_le _⟩) ?_
    refine x_locals (lv' := [(2, .int x2)]) [2] rfl ?_
    cases b2 with
    | false => exact X_X5_labelOf_b5 (x := ad 0) (y := ad 7) C T h
    | true =>
      refine x_world (w' := wE cI cZ (swA ad) (swS S) (eo (swA ad) (ad 0) (ad 7) rest)) (wl_sw (D := D)).1 ((wl_sw (D := D)).2 _) ?_
      exact x_mono (QZI.mono wl_unsw0) (X_X5_labelOf_b5 (ad := swA ad) (x := ad 0) (y := ad 7) C T h)
  | succ q2 =>
    replace h := (if_neg (Nat.succ_ne_zero q2)).symm.trans h
    obtain rfl := Option.some.inj h
    exact x_cx C (T (Nat.succ_ne_zero _)) (x_runVX C (T (Nat.succ_ne_zero _)).2.2 (As := [.int x1]) (rest := []) (c_X5_treeOf_th (T (Nat.succ_ne_zero _)).1 hg2) (cw_X5_labelOf_X5_treeOf_71_th C) 32 rfl rfl rfl (Nat.le_of_ble_eq_true rfl) dX5_labelOf_2 ⟨Nat.le_refl _, Nat.le_refl _⟩)
set_option maxRecDepth 100000 in
theorem c_X5_labelOf_ok {l : Launch} {D : va_G} {cI cZ cJ : ClassId} {ad : Nat → Nat} {S : St} {rest : va_W} {x1 x2 : Int32} {v : Int32} (h : X5_labelOf S x1 x2 = some (0, v)) : ∀ sz, Met l yX5_labelOf wsX5_labelOf (rm_X5_labelOf 0) (PC D (t3 cI cZ cJ) [.ref (ad 32), .int x1, .int x2] (wE cI cZ ad S (eo ad (ad 0) (ad 7) rest)) sz) (QI D (t3 cI cZ cJ) (wE cI cZ ad S (eo ad (ad 0) (ad 7) rest)) (wE cI cZ ad S (eo ad (ad 0) (ad 7) rest)) sz v) 0 0 (va_A (wE cI cZ ad S (eo ad (ad 0) (ad 7) rest)) sz) := by
  refine x_met (Qc := fun sz => QI D (t3 cI cZ cJ) (wE cI cZ ad S (eo ad (ad 0) (ad 7) rest)) (wE cI cZ ad S (eo ad (ad 0) (ad 7) rest)) sz v) RX5 rfl (by decide) rfl (Nat.le_of_ble_eq_true rfl) (fun p e s m args below meth c C => ?_)
  exact X_X5_labelOf (z := (0, v)) C (fun h9 => (h9 rfl).elim) h
set_option maxRecDepth 100000 in
theorem c_X5_labelOf_th {l : Launch} {D : va_G} {cI cZ cJ : ClassId} {ad : Nat → Nat} {S : St} {rest : va_W} {x1 x2 : Int32} {v : Int32} {q : Nat} (hfl : l.stackTraces = false) (h : X5_labelOf S x1 x2 = some ((q + 1), v)) : ∀ sz, vx_Met l yX5_labelOf wsX5_labelOf (rm_X5_labelOf (q + 1)) (PX D (t3 cI cZ cJ) [.ref (ad 32), .int x1, .int x2] (wE cI cZ ad S (eo ad (ad 0) (ad 7) rest)) sz) nQ (XX D (t3 cI cZ cJ) (wE cI cZ ad S (eo ad (ad 0) (ad 7) rest)) (wE cI cZ ad S (eo ad (ad 0) (ad 7) rest)) sz (exN q)) 1 6 (va_A (wE cI cZ ad S (eo ad (ad 0) (ad 7) rest)) sz) := by
  refine x_metX hfl (XCf := fun sz => XX D (t3 cI cZ cJ) (wE cI cZ ad S (eo ad (ad 0) (ad 7) rest)) (wE cI cZ ad S (eo ad (ad 0) (ad 7) rest)) sz (exN q)) RX5 rfl (by decide) rfl (Nat.le_of_ble_eq_true rfl) (fun p e s m args below meth c C T => ?_)
  exact X_X5_labelOf (z := (q + 1, v)) C (fun _ => T) h
/-! EntryMasters.value(III)I -/
abbrev rm_X5_value (kc : Nat) : Room := rmf 8 124 kc
theorem cw_X5_value_X4_valueAt_104 {p : Program} {s : State} {m : MethodId} {args : Array Value} {meth : Method} {c : Code} {D : va_G} {tys : List (ClassId × FieldType)} {R : Room} {kc : Nat} (C : XC p R s m args meth c cX5_value 5 (some .int) RX5 wsX5_value D tys) : CallW (rm_X5_value kc) s args RX5 RX4 104 yX4_valueAt cX4_valueAt 3 (some .int) wsX4_valueAt rm_X4_valueAt 0 0 2 := cwV 2 C.2.2.2.2.1 gX5_value_X4_valueAt rfl rfl rfl (by decide +kernel) ⟨Nat.le_of_ble_eq_true rfl, Nat.le_of_ble_eq_true rfl⟩
theorem cw_X5_value_X5_checkEntry_75 {p : Program} {s : State} {m : MethodId} {args : Array Value} {meth : Method} {c : Code} {D : va_G} {tys : List (ClassId × FieldType)} {R : Room} {kc : Nat} (C : XC p R s m args meth c cX5_value 5 (some .int) RX5 wsX5_value D tys) : CallB (rm_X5_value kc) s args RX5 75 yX5_checkEntry cX5_checkEntry 2 none wsX5_checkEntry (rm_X5_checkEntry 0) 0 0 2 ∧ (Cond.static yX5_checkEntry).before args s = true := va_cwS 2 C.2.2.2.2.1 gX5_value_X5_checkEntry rfl rfl rfl (by decide +kernel) ⟨Nat.le_of_ble_eq_true rfl, Nat.le_of_ble_eq_true rfl⟩
theorem cw_X5_value_X5_checkEntry_75_th {p : Program} {s : State} {m : MethodId} {args : Array Value} {meth : Method} {c : Code} {D : va_G} {tys : List (ClassId × FieldType)} {R : Room} {kc : Nat} {q : Nat} (C : XC p R s m args meth c cX5_value 5 (some .int) RX5 wsX5_value D tys) : CallB (rm_X5_value kc) s args RX5 75 yX5_checkEntry cX5_checkEntry 2 none wsX5_checkEntry (rm_X5_checkEntry (q + 1)) 1 6 2 ∧ (Cond.static yX5_checkEntry).before args s = true := va_cwS 2 C.2.2.2.2.1 gX5_value_X5_checkEntry rfl rfl rfl (by decide +kernel) ⟨Nat.le_of_ble_eq_true rfl, Nat.le_of_ble_eq_true rfl⟩
theorem cw_X5_value_X5_checkIndex_49 {p : Program} {s : State} {m : MethodId} {args : Array Value} {meth : Method} {c : Code} {D : va_G} {tys : List (ClassId × FieldType)} {R : Room} {kc : Nat} (C : XC p R s m args meth c cX5_value 5 (some .int) RX5 wsX5_value D tys) : CallB (rm_X5_value kc) s args RX5 49 yX5_checkIndex cX5_checkIndex 2 none wsX5_checkIndex (rm_X5_checkIndex 0) 0 0 2 ∧ (Cond.static yX5_checkIndex).before args s = true := va_cwS 2 C.2.2.2.2.1 gX5_value_X5_checkIndex rfl rfl rfl (by decide +kernel) ⟨Nat.le_of_ble_eq_true rfl, Nat.le_of_ble_eq_true rfl⟩
theorem cw_X5_value_X5_checkIndex_49_th {p : Program} {s : State} {m : MethodId} {args : Array Value} {meth : Method} {c : Code} {D : va_G} {tys : List (ClassId × FieldType)} {R : Room} {kc : Nat} {q : Nat} (C : XC p R s m args meth c cX5_value 5 (some .int) RX5 wsX5_value D tys) : CallB (rm_X5_value kc) s args RX5 49 yX5_checkIndex cX5_checkIndex 2 none wsX5_checkIndex (rm_X5_checkIndex (q + 1)) 1 6 2 ∧ (Cond.static yX5_checkIndex).before args s = true := va_cwS 2 C.2.2.2.2.1 gX5_value_X5_checkIndex rfl rfl rfl (by decide +kernel) ⟨Nat.le_of_ble_eq_true rfl, Nat.le_of_ble_eq_true rfl⟩
theorem cw_X5_value_X5_treeOf_71 {p : Program} {s : State} {m : MethodId} {args : Array Value} {meth : Method} {c : Code} {D : va_G} {tys : List (ClassId × FieldType)} {R : Room} {kc : Nat} (C : XC p R s m args meth c cX5_value 5 (some .int) RX5 wsX5_value D tys) : CallW (rm_X5_value kc) s args RX5 RX5 71 yX5_treeOf cX5_treeOf 2 (some (.object "EntryMasters$Tree")) wsX5_treeOf (rm_X5_treeOf 0) 0 0 1 := cwV 1 C.2.2.2.2.1 gX5_value_X5_treeOf rfl rfl rfl (by decide +kernel) ⟨Nat.le_of_ble_eq_true rfl, Nat.le_of_ble_eq_true rfl⟩
theorem cw_X5_value_X5_treeOf_71_th {p : Program} {s : State} {m : MethodId} {args : Array Value} {meth : Method} {c : Code} {D : va_G} {tys : List (ClassId × FieldType)} {R : Room} {kc : Nat} {q : Nat} (C : XC p R s m args meth c cX5_value 5 (some .int) RX5 wsX5_value D tys) : CallW (rm_X5_value kc) s args RX5 RX5 71 yX5_treeOf cX5_treeOf 2 (some (.object "EntryMasters$Tree")) wsX5_treeOf (rm_X5_treeOf (q + 1)) 1 6 1 := cwV 1 C.2.2.2.2.1 gX5_value_X5_treeOf rfl rfl rfl (by decide +kernel) ⟨Nat.le_of_ble_eq_true rfl, Nat.le_of_ble_eq_true rfl⟩
def X5_value_b5 (S : St) (x2 x3 : Int32) : Option (Nat × Int32) :=
  (X5_checkEntry S x2).bind fun q10 => if q10 = 0 then ((X5_checkIndex x3 4).bind fun q15 => if q15 = 0 then ((X4_valueAt S x2 x3).bind fun v22 => some (0, v22)) else some (q15, 0)) else some (q10, 0)
set_option maxHeartbeats 4000000 in
set_option maxRecDepth 100000 in
theorem X_X5_value_b5 {p : Program} {l : Launch} {e : Env} {s : State} {m : MethodId} {args : Array Value} {below : List Frame} {meth : Method} {c : Code} {D : va_G} {cI cZ cJ : ClassId} {ad : Nat → Nat} {rest w0 : va_W} {x y : Nat} {z : Nat × Int32} (C : XC p (rm_X5_value z.1) s m args meth c cX5_value 5 (some .int) RX5 wsX5_value D (t3 cI cZ cJ)) (T : z.1 ≠ 0 → XT l s c w0) {S : St} {x2 x3 : Int32} (h : X5_value_b5 S x2 x3 = some z) : XW p l e (rm_X5_value z.1) s m args below meth c D w0 5 (QZ z.1 (MQ below (QI D (t3 cI cZ cJ) w0 (wE cI cZ ad S (eo ad x y rest)) s.heap.size z.2) args s 0 0 (va_A w0 s.heap.size)) (fun q9 => vx_MQ below nQ (XX D (t3 cI cZ cJ) w0 (wE cI cZ ad S (eo ad x y rest)) s.heap.size (exN q9)) args s 1 6 (va_A w0 s.heap.size))) (wE cI cZ ad S (eo ad x y rest)) 0 0 5 [(2, .int x2), (3, .int x3)] [.ref (ad 0)] := by
  unfold X5_value_b5 at h
  refine x_astore C (lv' := [(2, .int x2), (3, .int x3), (4, .ref (ad 0))]) dX5_value_5 (by decide) rfl ?_
  refine x_aload C 2 dX5_value_7 rfl ?_
  refine x_iload_n C 0 dX5_value_9 rfl ?_
  obtain ⟨q10, hg10, h⟩ := ob h
  cases q10 with
  | zero =>
    replace h := (if_pos (c := (0 : Nat) = 0) rfl).symm.trans h
    refine x_cv0 (x_runS C (As := [.ref (ad 0), .int x2]) (rest := []) (c_X5_checkEntry_ok hg10) (cw_X5_value_X5_checkEntry_75 C) rfl (Nat.le_of_ble_eq_true rfl) dX5_value_10 ⟨Nat.zero_le _, Nat.zero_le _⟩) ?_
    refine x_iload_n C 1 dX5_value_13 rfl ?_
    refine x_iconst C (v := 4) dX5_value_14 (by decide) ?_
    obtain ⟨q15, hg15, h⟩ := ob h
    cases q15 with
    | zero =>
      replace h := (if_pos (c := (0 : Nat) = 0) rfl).symm.trans h
      refine x_cv0 (x_runS C (As := [.int x3, .int 4]) (rest := []) (c_X5_checkIndex_ok hg15) (cw_X5_value_X5_checkIndex_49 C) rfl (Nat.le_of_ble_eq_true rfl) dX5_value_15 ⟨Nat.zero_le _, Nat.zero_le _⟩) ?_
      refine x_aload C 2 dX5_value_18 rfl ?_
      refine x_iload_n C 0 dX5_value_20 rfl ?_
      refine x_iload_n C 1 dX5_value_21 rfl ?_
      obtain ⟨v22, hg22, h⟩ := ob h
      refine x_ci0 (x_runV C (As := [.int x2, .int x3]) (rest := []) (c_X4_valueAt hg22) (cw_X5_value_X4_valueAt_104 C) 0 rfl rfl rfl (Nat.le_of_ble_eq_true rfl) dX5_value_22 ⟨Nat.zero_le _, Nat.zero_le _⟩) ?_
      obtain rfl := Option.some.inj h
      exact x_iret C (v := v22) dX5_value_25
    | succ q15 =>
      replace h := (if_neg (Nat.succ_ne_zero q15)).symm.trans h
      obtain rfl := Option.some.inj h
      exact x_cx C (T (Nat.succ_ne_zero _)) (x_runSX C (T (Nat.succ_ne_zero _)).2.2 (As := [.int x3, .int 4]) (rest := []) (c_X5_checkIndex_th (T (Nat.succ_ne_zero _)).1 hg15) (cw_X5_value_X5_checkIndex_49_th C) rfl (Nat.le_of_ble_eq_true rfl) dX5_value_15 ⟨Nat.le_refl _, Nat.le_refl _⟩)
  | succ q10 =>
    replace h := (if_neg (Nat.succ_ne_zero q10)).symm.trans h
    obtain rfl := Option.some.inj h
    exact x_cx C (T (Nat.succ_ne_zero _)) (x_runSX C (T (Nat.succ_ne_zero _)).2.2 (As := [.ref (ad 0), .int x2]) (rest := []) (c_X5_checkEntry_th (T (Nat.succ_ne_zero _)).1 hg10) (cw_X5_value_X5_checkEntry_75_th C) rfl (Nat.le_of_ble_eq_true rfl) dX5_value_10 ⟨Nat.le_refl _, Nat.le_refl _⟩)
def X5_value (S : St) (x1 x2 x3 : Int32) : Option (Nat × Int32) :=
  (X5_treeOf S x1).bind fun q2 => if q2.1 = 0 then (bif q2.2 then (X5_value_b5 (swS S) x2 x3) else (X5_value_b5 S x2 x3)) else some (q2.1, 0)
set_option maxHeartbeats 4000000 in
set_option maxRecDepth 100000 in
theorem X_X5_value {p : Program} {l : Launch} {e : Env} {s : State} {m : MethodId} {args : Array Value} {below : List Frame} {meth : Method} {c : Code} {D : va_G} {cI cZ cJ : ClassId} {ad : Nat → Nat} {rest w0 : va_W} {z : Nat × Int32} (C : XC p (rm_X5_value z.1) s m args meth c cX5_value 5 (some .int) RX5 wsX5_value D (t3 cI cZ cJ)) (T : z.1 ≠ 0 → XT l s c w0) {S : St} {x1 x2 x3 : Int32} (h : X5_value S x1 x2 x3 = some z) : XW p l e (rm_X5_value z.1) s m args below meth c D w0 5 (QZ z.1 (MQ below (QI D (t3 cI cZ cJ) w0 (wE cI cZ ad S (eo ad (ad 0) (ad 7) rest)) s.heap.size z.2) args s 0 0 (va_A w0 s.heap.size)) (fun q9 => vx_MQ below nQ (XX D (t3 cI cZ cJ) w0 (wE cI cZ ad S (eo ad (ad 0) (ad 7) rest)) s.heap.size (exN q9)) args s 1 6 (va_A w0 s.heap.size))) (wE cI cZ ad S (eo ad (ad 0) (ad 7) rest)) 0 0 0 [(0, .ref (ad 32)), (1, .int x1), (2, .int x2), (3, .int x3)] [] := by
  unfold X5_value at h
  refine x_aload_n C 0 dX5_value_0 rfl ?_
  refine x_iload_n C 1 dX5_value_1 rfl ?_
  obtain ⟨⟨q2, b2⟩, hg2, h⟩ := ob h
  cases q2 with
  | zero =>
    replace h := (if_pos (c := (0 : Nat) = 0) rfl).symm.trans h
    refine x_cr0 (x_runV C (As := [.int x1]) (rest := []) (c_X5_treeOf_ok hg2) (cw_X5_value_X5_treeOf_71 C) 32 rfl rfl rfl (Nat.le_of_ble_eq_true rfl) dX5_value_2 ⟨Nat.zero_le _, Nat.zero_le _⟩) ?_
    refine x_locals (lv' := [(2, .int x2), (3, .int x3)]) [2, 3] rfl ?_
    cases b2 with
    | false => exact X_X5_value_b5 (x := ad 0) (y := ad 7) C T h
    | true =>
      refine x_world (w' := wE cI cZ (swA ad) (swS S) (eo (swA ad) (ad 0) (ad 7) rest)) (wl_sw (D := D)).1 ((wl_sw (D := D)).2 _) ?_
      exact x_mono (QZI.mono wl_unsw0) (X_X5_value_b5 (ad := swA ad) (x := ad 0) (y := ad 7) C T h)
  | succ q2 =>
    replace h := (if_neg (Nat.succ_ne_zero q2)).symm.trans h
    obtain rfl := Option.some.inj h
    exact x_cx C (T (Nat.succ_ne_zero _)) (x_runVX C (T (Nat.succ_ne_zero _)).2.2 (As := [.int x1]) (rest := []) (c_X5_treeOf_th (T (Nat.succ_ne_zero _)).1 hg2) (cw_X5_value_X5_treeOf_71_th C) 32 rfl rfl rfl (Nat.le_of_ble_eq_true rfl) dX5_value_2 ⟨Nat.le_refl _, Nat.le_refl _⟩)
set_option maxRecDepth 100000 in
theorem c_X5_value_ok {l : Launch} {D : va_G} {cI cZ cJ : ClassId} {ad : Nat → Nat} {S : St} {rest : va_W} {x1 x2 x3 : Int32} {v : Int32} (h : X5_value S x1 x2 x3 = some (0, v)) : ∀ sz, Met l yX5_value wsX5_value (rm_X5_value 0) (PC D (t3 cI cZ cJ) [.ref (ad 32), .int x1, .int x2, .int x3] (wE cI cZ ad S (eo ad (ad 0) (ad 7) rest)) sz) (QI D (t3 cI cZ cJ) (wE cI cZ ad S (eo ad (ad 0) (ad 7) rest)) (wE cI cZ ad S (eo ad (ad 0) (ad 7) rest)) sz v) 0 0 (va_A (wE cI cZ ad S (eo ad (ad 0) (ad 7) rest)) sz) := by
  refine x_met (Qc := fun sz => QI D (t3 cI cZ cJ) (wE cI cZ ad S (eo ad (ad 0) (ad 7) rest)) (wE cI cZ ad S (eo ad (ad 0) (ad 7) rest)) sz v) RX5 rfl (by decide) rfl (Nat.le_of_ble_eq_true rfl) (fun p e s m args below meth c C => ?_)
  exact X_X5_value (z := (0, v)) C (fun h9 => (h9 rfl).elim) h
set_option maxRecDepth 100000 in
theorem c_X5_value_th {l : Launch} {D : va_G} {cI cZ cJ : ClassId} {ad : Nat → Nat} {S : St} {rest : va_W} {x1 x2 x3 : Int32} {v : Int32} {q : Nat} (hfl : l.stackTraces = false) (h : X5_value S x1 x2 x3 = some ((q + 1), v)) : ∀ sz, vx_Met l yX5_value wsX5_value (rm_X5_value (q + 1)) (PX D (t3 cI cZ cJ) [.ref (ad 32), .int x1, .int x2, .int x3] (wE cI cZ ad S (eo ad (ad 0) (ad 7) rest)) sz) nQ (XX D (t3 cI cZ cJ) (wE cI cZ ad S (eo ad (ad 0) (ad 7) rest)) (wE cI cZ ad S (eo ad (ad 0) (ad 7) rest)) sz (exN q)) 1 6 (va_A (wE cI cZ ad S (eo ad (ad 0) (ad 7) rest)) sz) := by
  refine x_metX hfl (XCf := fun sz => XX D (t3 cI cZ cJ) (wE cI cZ ad S (eo ad (ad 0) (ad 7) rest)) (wE cI cZ ad S (eo ad (ad 0) (ad 7) rest)) sz (exN q)) RX5 rfl (by decide) rfl (Nat.le_of_ble_eq_true rfl) (fun p e s m args below meth c C T => ?_)
  exact X_X5_value (z := (q + 1, v)) C (fun _ => T) h
/-! EntryMasters.isWhole(II)Z -/
abbrev rm_X5_isWhole (kc : Nat) : Room := rmf 8 124 kc
theorem cw_X5_isWhole_X4_hasAllNeeded_141 {p : Program} {s : State} {m : MethodId} {args : Array Value} {meth : Method} {c : Code} {D : va_G} {tys : List (ClassId × FieldType)} {R : Room} {kc : Nat} (C : XC p R s m args meth c cX5_isWhole 4 (some .boolean) RX5 wsX5_isWhole D tys) : CallW (rm_X5_isWhole kc) s args RX5 RX4 141 yX4_hasAllNeeded cX4_hasAllNeeded 4 (some .boolean) wsX4_hasAllNeeded rm_X4_hasAllNeeded 0 0 1 := cwV 1 C.2.2.2.2.1 gX5_isWhole_X4_hasAllNeeded rfl rfl rfl (by decide +kernel) ⟨Nat.le_of_ble_eq_true rfl, Nat.le_of_ble_eq_true rfl⟩
theorem cw_X5_isWhole_X5_checkEntry_75 {p : Program} {s : State} {m : MethodId} {args : Array Value} {meth : Method} {c : Code} {D : va_G} {tys : List (ClassId × FieldType)} {R : Room} {kc : Nat} (C : XC p R s m args meth c cX5_isWhole 4 (some .boolean) RX5 wsX5_isWhole D tys) : CallB (rm_X5_isWhole kc) s args RX5 75 yX5_checkEntry cX5_checkEntry 2 none wsX5_checkEntry (rm_X5_checkEntry 0) 0 0 2 ∧ (Cond.static yX5_checkEntry).before args s = true := va_cwS 2 C.2.2.2.2.1 gX5_isWhole_X5_checkEntry rfl rfl rfl (by decide +kernel) ⟨Nat.le_of_ble_eq_true rfl, Nat.le_of_ble_eq_true rfl⟩
theorem cw_X5_isWhole_X5_checkEntry_75_th {p : Program} {s : State} {m : MethodId} {args : Array Value} {meth : Method} {c : Code} {D : va_G} {tys : List (ClassId × FieldType)} {R : Room} {kc : Nat} {q : Nat} (C : XC p R s m args meth c cX5_isWhole 4 (some .boolean) RX5 wsX5_isWhole D tys) : CallB (rm_X5_isWhole kc) s args RX5 75 yX5_checkEntry cX5_checkEntry 2 none wsX5_checkEntry (rm_X5_checkEntry (q + 1)) 1 6 2 ∧ (Cond.static yX5_checkEntry).before args s = true := va_cwS 2 C.2.2.2.2.1 gX5_isWhole_X5_checkEntry rfl rfl rfl (by decide +kernel) ⟨Nat.le_of_ble_eq_true rfl, Nat.le_of_ble_eq_true rfl⟩
theorem cw_X5_isWhole_X5_treeOf_71 {p : Program} {s : State} {m : MethodId} {args : Array Value} {meth : Method} {c : Code} {D : va_G} {tys : List (ClassId × FieldType)} {R : Room} {kc : Nat} (C : XC p R s m args meth c cX5_isWhole 4 (some .boolean) RX5 wsX5_isWhole D tys) : CallW (rm_X5_isWhole kc) s args RX5 RX5 71 yX5_treeOf cX5_treeOf 2 (some (.object "EntryMasters$Tree")) wsX5_treeOf (rm_X5_treeOf 0) 0 0 1 := cwV 1 C.2.2.2.2.1 gX5_isWhole_X5_treeOf rfl rfl rfl (by decide +kernel) ⟨Nat.le_of_ble_eq_true rfl, Nat.le_of_ble_eq_true rfl⟩
theorem cw_X5_isWhole_X5_treeOf_71_th {p : Program} {s : State} {m : MethodId} {args : Array Value} {meth : Method} {c : Code} {D : va_G} {tys : List (ClassId × FieldType)} {R : Room} {kc : Nat} {q : Nat} (C : XC p R s m args meth c cX5_isWhole 4 (some .boolean) RX5 wsX5_isWhole D tys) : CallW (rm_X5_isWhole kc) s args RX5 RX5 71 yX5_treeOf cX5_treeOf 2 (some (.object "EntryMasters$Tree")) wsX5_treeOf (rm_X5_treeOf (q + 1)) 1 6 1 := cwV 1 C.2.2.2.2.1 gX5_isWhole_X5_treeOf rfl rfl rfl (by decide +kernel) ⟨Nat.le_of_ble_eq_true rfl, Nat.le_of_ble_eq_true rfl⟩
def X5_isWhole_b5 (S : St) (x2 : Int32) : Option (Nat × Int32) :=
  (X5_checkEntry S x2).bind fun q8 => if q8 = 0 then ((X4_hasAllNeeded S x2).bind fun v13 => if v13 &&& 1 = v13 then (some (0, v13)) else none) else some (q8, 0)
set_option maxHeartbeats 4000000 in
set_option maxRecDepth 100000 in
theorem X_X5_isWhole_b5 {p : Program} {l : Launch} {e : Env} {s : State} {m : MethodId} {args : Array Value} {below : List Frame} {meth : Method} {c : Code} {D : va_G} {cI cZ cJ : ClassId} {ad : Nat → Nat} {rest w0 : va_W} {x y : Nat} {z : Nat × Int32} (C : XC p (rm_X5_isWhole z.1) s m args meth c cX5_isWhole 4 (some .boolean) RX5 wsX5_isWhole D (t3 cI cZ cJ)) (T : z.1 ≠ 0 → XT l s c w0) {S : St} {x2 : Int32} (h : X5_isWhole_b5 S x2 = some z) : XW p l e (rm_X5_isWhole z.1) s m args below meth c D w0 4 (QZ z.1 (MQ below (QI D (t3 cI cZ cJ) w0 (wE cI cZ ad S (eo ad x y rest)) s.heap.size z.2) args s 0 0 (va_A w0 s.heap.size)) (fun q9 => vx_MQ below nQ (XX D (t3 cI cZ cJ) w0 (wE cI cZ ad S (eo ad x y rest)) s.heap.size (exN q9)) args s 1 6 (va_A w0 s.heap.size))) (wE cI cZ ad S (eo ad x y rest)) 0 0 5 [(2, .int x2)] [.ref (ad 0)] := by
  unfold X5_isWhole_b5 at h
  refine x_astore_n C (lv' := [(2, .int x2), (3, .ref (ad 0))]) dX5_isWhole_5 (by decide) rfl ?_
  refine x_aload_n C 1 dX5_isWhole_6 rfl ?_
  refine x_iload_n C 0 dX5_isWhole_7 rfl ?_
  obtain ⟨q8, hg8, h⟩ := ob h
  cases q8 with
  | zero =>
    replace h := (if_pos (c := (0 : Nat) = 0) rfl).symm.trans h
    refine x_cv0 (x_runS C (As := [.ref (ad 0), .int x2]) (rest := []) (c_X5_checkEntry_ok hg8) (cw_X5_isWhole_X5_checkEntry_75 C) rfl (Nat.le_of_ble_eq_true rfl) dX5_isWhole_8 ⟨Nat.zero_le _, Nat.zero_le _⟩) ?_
    refine x_aload_n C 1 dX5_isWhole_11 rfl ?_
    refine x_iload_n C 0 dX5_isWhole_12 rfl ?_
    obtain ⟨v13, hg13, h⟩ := ob h
    refine x_ci0 (x_runV C (As := [.int x2]) (rest := []) (c_X4_hasAllNeeded hg13) (cw_X5_isWhole_X4_hasAllNeeded_141 C) 0 rfl rfl rfl (Nat.le_of_ble_eq_true rfl) dX5_isWhole_13 ⟨Nat.zero_le _, Nat.zero_le _⟩) ?_
    obtain ⟨g16, h⟩ := gd h
    obtain rfl := Option.some.inj h
    exact x_zret C g16 dX5_isWhole_16
  | succ q8 =>
    replace h := (if_neg (Nat.succ_ne_zero q8)).symm.trans h
    obtain rfl := Option.some.inj h
    exact x_cx C (T (Nat.succ_ne_zero _)) (x_runSX C (T (Nat.succ_ne_zero _)).2.2 (As := [.ref (ad 0), .int x2]) (rest := []) (c_X5_checkEntry_th (T (Nat.succ_ne_zero _)).1 hg8) (cw_X5_isWhole_X5_checkEntry_75_th C) rfl (Nat.le_of_ble_eq_true rfl) dX5_isWhole_8 ⟨Nat.le_refl _, Nat.le_refl _⟩)
def X5_isWhole (S : St) (x1 x2 : Int32) : Option (Nat × Int32) :=
  (X5_treeOf S x1).bind fun q2 => if q2.1 = 0 then (bif q2.2 then (X5_isWhole_b5 (swS S) x2) else (X5_isWhole_b5 S x2)) else some (q2.1, 0)
set_option maxHeartbeats 4000000 in
set_option maxRecDepth 100000 in
theorem X_X5_isWhole {p : Program} {l : Launch} {e : Env} {s : State} {m : MethodId} {args : Array Value} {below : List Frame} {meth : Method} {c : Code} {D : va_G} {cI cZ cJ : ClassId} {ad : Nat → Nat} {rest w0 : va_W} {z : Nat × Int32} (C : XC p (rm_X5_isWhole z.1) s m args meth c cX5_isWhole 4 (some .boolean) RX5 wsX5_isWhole D (t3 cI cZ cJ)) (T : z.1 ≠ 0 → XT l s c w0) {S : St} {x1 x2 : Int32} (h : X5_isWhole S x1 x2 = some z) : XW p l e (rm_X5_isWhole z.1) s m args below meth c D w0 4 (QZ z.1 (MQ below (QI D (t3 cI cZ cJ) w0 (wE cI cZ ad S (eo ad (ad 0) (ad 7) rest)) s.heap.size z.2) args s 0 0 (va_A w0 s.heap.size)) (fun q9 => vx_MQ below nQ (XX D (t3 cI cZ cJ) w0 (wE cI cZ ad S (eo ad (ad 0) (ad 7) rest)) s.heap.size (exN q9)) args s 1 6 (va_A w0 s.heap.size))) (wE cI cZ ad S (eo ad (ad 0) (ad 7) rest)) 0 0 0 [(0, .ref (ad 32)), (1, .int x1), (2, .int x2)] [] := by
  unfold X5_isWhole at h
  refine x_aload_n C 0 dX5_isWhole_0 rfl ?_
  refine x_iload_n C 1 dX5_isWhole_1 rfl ?_
  obtain ⟨⟨q2, b2⟩, hg2, h⟩ := ob h
  cases q2 with
  | zero =>
    replace h := (if_pos (c := (0 : Nat) = 0) rfl).symm.trans h
    refine x_cr0 (x_runV C (As := [.int x1]) (rest := []) (c_X5_treeOf_ok hg2) (cw_X5_isWhole_X5_treeOf_71 C) 32 rfl rfl rfl (Nat.le_of_ble_eq_true rfl) dX5_isWhole_2 ⟨Nat.zero_le _, Nat.zero_le _⟩) ?_
    refine x_locals (lv' := [(2, .int x2)]) [2] rfl ?_
    cases b2 with
    | false => exact X_X5_isWhole_b5 (x := ad 0) (y := ad 7) C T h
    | true =>
      refine x_world (w' := wE cI cZ (swA ad) (swS S) (eo (swA ad) (ad 0) (ad 7) rest)) (wl_sw (D := D)).1 ((wl_sw (D := D)).2 _) ?_
      exact x_mono (QZI.mono wl_unsw0) (X_X5_isWhole_b5 (ad := swA ad) (x := ad 0) (y := ad 7) C T h)
  | succ q2 =>
    replace h := (if_neg (Nat.succ_ne_zero q2)).symm.trans h
    obtain rfl := Option.some.inj h
    exact x_cx C (T (Nat.succ_ne_zero _)) (x_runVX C (T (Nat.succ_ne_zero _)).2.2 (As := [.int x1]) (rest := []) (c_X5_treeOf_th (T (Nat.succ_ne_zero _)).1 hg2) (cw_X5_isWhole_X5_treeOf_71_th C) 32 rfl rfl rfl (Nat.le_of_ble_eq_true rfl) dX5_isWhole_2 ⟨Nat.le_refl _, Nat.le_refl _⟩)
set_option maxRecDepth 100000 in
theorem c_X5_isWhole_ok {l : Launch} {D : va_G} {cI cZ cJ : ClassId} {ad : Nat → Nat} {S : St} {rest : va_W} {x1 x2 : Int32} {v : Int32} (h : X5_isWhole S x1 x2 = some (0, v)) : ∀ sz, Met l yX5_isWhole wsX5_isWhole (rm_X5_isWhole 0) (PC D (t3 cI cZ cJ) [.ref (ad 32), .int x1, .int x2] (wE cI cZ ad S (eo ad (ad 0) (ad 7) rest)) sz) (QI D (t3 cI cZ cJ) (wE cI cZ ad S (eo ad (ad 0) (ad 7) rest)) (wE cI cZ ad S (eo ad (ad 0) (ad 7) rest)) sz v) 0 0 (va_A (wE cI cZ ad S (eo ad (ad 0) (ad 7) rest)) sz) := by
  refine x_met (Qc := fun sz => QI D (t3 cI cZ cJ) (wE cI cZ ad S (eo ad (ad 0) (ad 7) rest)) (wE cI cZ ad S (eo ad (ad 0) (ad 7) rest)) sz v) RX5 rfl (by decide) rfl (Nat.le_of_ble_eq_true rfl) (fun p e s m args below meth c C => ?_)
  exact X_X5_isWhole (z := (0, v)) C (fun h9 => (h9 rfl).elim) h
set_option maxRecDepth 100000 in
theorem c_X5_isWhole_th {l : Launch} {D : va_G} {cI cZ cJ : ClassId} {ad : Nat → Nat} {S : St} {rest : va_W} {x1 x2 : Int32} {v : Int32} {q : Nat} (hfl : l.stackTraces = false) (h : X5_isWhole S x1 x2 = some ((q + 1), v)) : ∀ sz, vx_Met l yX5_isWhole wsX5_isWhole (rm_X5_isWhole (q + 1)) (PX D (t3 cI cZ cJ) [.ref (ad 32), .int x1, .int x2] (wE cI cZ ad S (eo ad (ad 0) (ad 7) rest)) sz) nQ (XX D (t3 cI cZ cJ) (wE cI cZ ad S (eo ad (ad 0) (ad 7) rest)) (wE cI cZ ad S (eo ad (ad 0) (ad 7) rest)) sz (exN q)) 1 6 (va_A (wE cI cZ ad S (eo ad (ad 0) (ad 7) rest)) sz) := by
  refine x_metX hfl (XCf := fun sz => XX D (t3 cI cZ cJ) (wE cI cZ ad S (eo ad (ad 0) (ad 7) rest)) (wE cI cZ ad S (eo ad (ad 0) (ad 7) rest)) sz (exN q)) RX5 rfl (by decide) rfl (Nat.le_of_ble_eq_true rfl) (fun p e s m args below meth c C T => ?_)
  exact X_X5_isWhole (z := (q + 1, v)) C (fun _ => T) h
/-! EntryMasters.find(III)I -/
abbrev rm_X5_find (kc : Nat) : Room := rmf 8 124 kc
theorem cw_X5_find_X4_childWithLabelLike_144 {p : Program} {s : State} {m : MethodId} {args : Array Value} {meth : Method} {c : Code} {D : va_G} {tys : List (ClassId × FieldType)} {R : Room} {kc : Nat} (C : XC p R s m args meth c cX5_find 5 (some .int) RX5 wsX5_find D tys) : CallW (rm_X5_find kc) s args RX5 RX4 144 yX4_childWithLabelLike cX4_childWithLabelLike 5 (some .int) wsX4_childWithLabelLike rm_X4_childWithLabelLike 0 0 3 := cwV 3 C.2.2.2.2.1 gX5_find_X4_childWithLabelLike rfl rfl rfl (by decide +kernel) ⟨Nat.le_of_ble_eq_true rfl, Nat.le_of_ble_eq_true rfl⟩
theorem cw_X5_find_X5_checkArgument_53 {p : Program} {s : State} {m : MethodId} {args : Array Value} {meth : Method} {c : Code} {D : va_G} {tys : List (ClassId × FieldType)} {R : Room} {kc : Nat} (C : XC p R s m args meth c cX5_find 5 (some .int) RX5 wsX5_find D tys) : CallB (rm_X5_find kc) s args RX5 53 yX5_checkArgument cX5_checkArgument 3 none wsX5_checkArgument (rm_X5_checkArgument 0) 0 0 3 ∧ (Cond.static yX5_checkArgument).before args s = true := va_cwS 3 C.2.2.2.2.1 gX5_find_X5_checkArgument rfl rfl rfl (by decide +kernel) ⟨Nat.le_of_ble_eq_true rfl, Nat.le_of_ble_eq_true rfl⟩
theorem cw_X5_find_X5_checkArgument_53_th {p : Program} {s : State} {m : MethodId} {args : Array Value} {meth : Method} {c : Code} {D : va_G} {tys : List (ClassId × FieldType)} {R : Room} {kc : Nat} {q : Nat} (C : XC p R s m args meth c cX5_find 5 (some .int) RX5 wsX5_find D tys) : CallB (rm_X5_find kc) s args RX5 53 yX5_checkArgument cX5_checkArgument 3 none wsX5_checkArgument (rm_X5_checkArgument (q + 1)) 1 6 3 ∧ (Cond.static yX5_checkArgument).before args s = true := va_cwS 3 C.2.2.2.2.1 gX5_find_X5_checkArgument rfl rfl rfl (by decide +kernel) ⟨Nat.le_of_ble_eq_true rfl, Nat.le_of_ble_eq_true rfl⟩
theorem cw_X5_find_X5_checkEntry_75 {p : Program} {s : State} {m : MethodId} {args : Array Value} {meth : Method} {c : Code} {D : va_G} {tys : List (ClassId × FieldType)} {R : Room} {kc : Nat} (C : XC p R s m args meth c cX5_find 5 (some .int) RX5 wsX5_find D tys) : CallB (rm_X5_find kc) s args RX5 75 yX5_checkEntry cX5_checkEntry 2 none wsX5_checkEntry (rm_X5_checkEntry 0) 0 0 2 ∧ (Cond.static yX5_checkEntry).before args s = true := va_cwS 2 C.2.2.2.2.1 gX5_find_X5_checkEntry rfl rfl rfl (by decide +kernel) ⟨Nat.le_of_ble_eq_true rfl, Nat.le_of_ble_eq_true rfl⟩
theorem cw_X5_find_X5_checkEntry_75_th {p : Program} {s : State} {m : MethodId} {args : Array Value} {meth : Method} {c : Code} {D : va_G} {tys : List (ClassId × FieldType)} {R : Room} {kc : Nat} {q : Nat} (C : XC p R s m args meth c cX5_find 5 (some .int) RX5 wsX5_find D tys) : CallB (rm_X5_find kc) s args RX5 75 yX5_checkEntry cX5_checkEntry 2 none wsX5_checkEntry (rm_X5_checkEntry (q + 1)) 1 6 2 ∧ (Cond.static yX5_checkEntry).before args s = true := va_cwS 2 C.2.2.2.2.1 gX5_find_X5_checkEntry rfl rfl rfl (by decide +kernel) ⟨Nat.le_of_ble_eq_true rfl, Nat.le_of_ble_eq_true rfl⟩
theorem cw_X5_find_X5_treeOf_71 {p : Program} {s : State} {m : MethodId} {args : Array Value} {meth : Method} {c : Code} {D : va_G} {tys : List (ClassId × FieldType)} {R : Room} {kc : Nat} (C : XC p R s m args meth c cX5_find 5 (some .int) RX5 wsX5_find D tys) : CallW (rm_X5_find kc) s args RX5 RX5 71 yX5_treeOf cX5_treeOf 2 (some (.object "EntryMasters$Tree")) wsX5_treeOf (rm_X5_treeOf 0) 0 0 1 := cwV 1 C.2.2.2.2.1 gX5_find_X5_treeOf rfl rfl rfl (by decide +kernel) ⟨Nat.le_of_ble_eq_true rfl, Nat.le_of_ble_eq_true rfl⟩
theorem cw_X5_find_X5_treeOf_71_th {p : Program} {s : State} {m : MethodId} {args : Array Value} {meth : Method} {c : Code} {D : va_G} {tys : List (ClassId × FieldType)} {R : Room} {kc : Nat} {q : Nat} (C : XC p R s m args meth c cX5_find 5 (some .int) RX5 wsX5_find D tys) : CallW (rm_X5_find kc) s args RX5 RX5 71 yX5_treeOf cX5_treeOf 2 (some (.object "EntryMasters$Tree")) wsX5_treeOf (rm_X5_treeOf (q + 1)) 1 6 1 := cwV 1 C.2.2.2.2.1 gX5_find_X5_treeOf rfl rfl rfl (by decide +kernel) ⟨Nat.le_of_ble_eq_true rfl, Nat.le_of_ble_eq_true rfl⟩
def X5_find_b5 (S : St) (x2 x3 : Int32) : Option (Nat × Int32) :=
  (X5_checkEntry S x2).bind fun q10 => if q10 = 0 then ((X5_checkArgument x3 0 99).bind fun q17 => if q17 = 0 then ((X4_childWithLabelLike S x2 x3 (-1)).bind fun v25 => some (0, v25)) else some (q17, 0)) else some (q10, 0)
set_option maxHeartbeats 4000000 in
set_option maxRecDepth 100000 in
theorem X_X5_find_b5 {p : Program} {l : Launch} {e : Env} {s : State} {m : MethodId} {args : Array Value} {below : List Frame} {meth : Method} {c : Code} {D : va_G} {cI cZ cJ : ClassId} {ad : Nat → Nat} {rest w0 : va_W} {x y : Nat} {z : Nat × Int32} (C : XC p (rm_X5_find z.1) s m args meth c cX5_find 5 (some .int) RX5 wsX5_find D (t3 cI cZ cJ)) (T : z.1 ≠ 0 → XT l s c w0) {S : St} {x2 x3 : Int32} (h : X5_find_b5 S x2 x3 = some z) : XW p l e (rm_X5_find z.1) s m args below meth c D w0 5 (QZ z.1 (MQ below (QI D (t3 cI cZ cJ) w0 (wE cI cZ ad S (eo ad x y rest)) s.heap.size z.2) args s 0 0 (va_A w0 s.heap.size)) (fun q9 => vx_MQ below nQ (XX D (t3 cI cZ cJ) w0 (wE cI cZ ad S (eo ad x y rest)) s.heap.size (exN q9)) args s 1 6 (va_A w0 s.heap.size))) (wE cI cZ ad S (eo ad x y rest)) 0 0 5 [(2, .int x2), (3, .int x3)] [.ref (ad 0)] := by
  unfold X5_find_b5 at h
  refine x_astore C (lv' := [(2, .int x2), (3, .int x3), (4, .ref (ad 0))]) dX5_find_5 (by decide) rfl ?_
  refine x_aload C 2 dX5_find_7 rfl ?_
  refine x_iload_n C 0 dX5_find_9 rfl ?_
  obtain ⟨q10, hg10, h⟩ := ob h
  cases q10 with
  | zero =>
    replace h := (if_pos (c := (0 : Nat) = 0) rfl).symm.trans h
    refine x_cv0 (x_runS C (As := [.ref (ad 0), .int x2]) (rest := []) (c_X5_checkEntry_ok hg10) (cw_X5_find_X5_checkEntry_75 C) rfl (Nat.le_of_ble_eq_true rfl) dX5_find_10 ⟨Nat.zero_le _, Nat.zero_le _⟩) ?_
    refine x_iload_n C 1 dX5_find_13 rfl ?_
    refine x_iconst C (v := 0) dX5_find_14 (by decide) ?_
    refine x_bipush C (v := 99) dX5_find_15 (by decide) ?_
    obtain ⟨q17, hg17, h⟩ := ob h
    cases q17 with
    | zero =>
      replace h := (if_pos (c := (0 : Nat) = 0) rfl).symm.trans h
      refine x_cv0 (x_runS C (As := [.int x3, .int 0, .int 99]) (rest := []) (c_X5_checkArgument_ok hg17) (cw_X5_find_X5_checkArgument_53 C) rfl (Nat.le_of_ble_eq_true rfl) dX5_find_17 ⟨Nat.zero_le _, Nat.zero_le _⟩) ?_
      refine x_aload C 2 dX5_find_20 rfl ?_
      refine x_iload_n C 0 dX5_find_22 rfl ?_
      refine x_iload_n C 1 dX5_find_23 rfl ?_
      refine x_iconst C (v := (-1)) dX5_find_24 (by decide) ?_
      obtain ⟨v25, hg25, h⟩ := ob h
      refine x_ci0 (x_runV C (As := [.int x2, .int x3, .int (-1)]) (rest := []) (c_X4_childWithLabelLike hg25) (cw_X5_find_X4_childWithLabelLike_144 C) 0 rfl rfl rfl (Nat.le_of_ble_eq_true rfl) dX5_find_25 ⟨Nat.zero_le _, Nat.zero_le _⟩) ?_
      obtain rfl := Option.some.inj h
      exact x_iret C (v := v25) dX5_find_28
    | succ q17 =>
      replace h := (if_neg (Nat.succ_ne_zero q17)).symm.trans h
      obtain rfl := Option.some.inj h
      exact x_cx C (T (Nat.succ_ne_zero _)) (x_runSX C (T (Nat.succ_ne_zero _)).2.2 (As := [.int x3, .int 0, .int 99]) (rest := []) (c_X5_checkArgument_th (T (Nat.succ_ne_zero _)).1 hg17) (cw_X5_find_X5_checkArgument_53_th C) rfl (Nat.le_of_ble_eq_true rfl) dX5_find_17 ⟨Nat.le_refl _, Nat.le_refl _⟩)
  | succ q10 =>
    replace h := (if_neg (Nat.succ_ne_zero q10)).symm.trans h
    obtain rfl := Option.some.inj h
    exact x_cx C (T (Nat.succ_ne_zero _)) (x_runSX C (T (Nat.succ_ne_zero _)).2.2 (As := [.ref (ad 0), .int x2]) (rest := []) (c_X5_checkEntry_th (T (Nat.succ_ne_zero _)).1 hg10) (cw_X5_find_X5_checkEntry_75_th C) rfl (Nat.le_of_ble_eq_true rfl) dX5_find_10 ⟨Nat.le_refl _, Nat.le_refl _⟩)
def X5_find (S : St) (x1 x2 x3 : Int32) : Option (Nat × Int32) :=
  (X5_treeOf S x1).bind fun q2 => if q2.1 = 0 then (bif q2.2 then (X5_find_b5 (swS S) x2 x3) else (X5_find_b5 S x2 x3)) else some (q2.1, 0)
set_option maxHeartbeats 4000000 in
set_option maxRecDepth 100000 in
theorem X_X5_find {p : Program} {l : Launch} {e : Env} {s : State} {m : MethodId} {args : Array Value} {below : List Frame} {meth : Method} {c : Code} {D : va_G} {cI cZ cJ : ClassId} {ad : Nat → Nat} {rest w0 : va_W} {z : Nat × Int32} (C : XC p (rm_X5_find z.1) s m args meth c cX5_find 5 (some .int) RX5 wsX5_find D (t3 cI cZ cJ)) (T : z.1 ≠ 0 → XT l s c w0) {S : St} {x1 x2 x3 : Int32} (h : X5_find S x1 x2 x3 = some z) : XW p l e (rm_X5_find z.1) s m args below meth c D w0 5 (QZ z.1 (MQ below (QI D (t3 cI cZ cJ) w0 (wE cI cZ ad S (eo ad (ad 0) (ad 7) rest)) s.heap.size z.2) args s 0 0 (va_A w0 s.heap.size)) (fun q9 => vx_MQ below nQ (XX D (t3 cI cZ cJ) w0 (wE cI cZ ad S (eo ad (ad 0) (ad 7) rest)) s.heap.size (exN q9)) args s 1 6 (va_A w0 s.heap.size))) (wE cI cZ ad S (eo ad (ad 0) (ad 7) rest)) 0 0 0 [(0, .ref (ad 32)), (1, .int x1), (2, .int x2), (3, .int x3)] [] := by
  unfold X5_find at h
  refine x_aload_n C 0 dX5_find_0 rfl ?_
  refine x_iload_n C 1 dX5_find_1 rfl ?_
  obtain ⟨⟨q2, b2⟩, hg2, h⟩ := ob h
  cases q2 with
  | zero =>
    replace h := (if_pos (c := (0 : Nat) = 0) rfl).symm.trans h
    refine x_cr0 (x_runV C (As := [.int x1]) (rest := []) (c_X5_treeOf_ok hg2) (cw_X5_find_X5_treeOf_71 C) 32 rfl rfl rfl (Nat.le_of_ble_eq_true rfl) dX5_find_2 ⟨Nat.zero_le _, Nat.zero_le _⟩) ?_
    refine x_locals (lv' := [(2, .int x2), (3, .int x3)]) [2, 3] rfl ?_
    cases b2 with
    | false => exact X_X5_find_b5 (x := ad 0) (y := ad 7) C T h
    | true =>
      refine x_world (w' := wE cI cZ (swA ad) (swS S) (eo (swA ad) (ad 0) (ad 7) rest)) (wl_sw (D := D)).1 ((wl_sw (D := D)).2 _) ?_
      exact x_mono (QZI.mono wl_unsw0) (X_X5_find_b5 (ad := swA ad) (x := ad 0) (y := ad 7) C T h)
  | succ q2 =>
    replace h := (if_neg (Nat.succ_ne_zero q2)).symm.trans h
    obtain rfl := Option.some.inj h
    exact x_cx C (T (Nat.succ_ne_zero _)) (x_runVX C (T (Nat.succ_ne_zero _)).2.2 (As := [.int x1]) (rest := []) (c_X5_treeOf_th (T (Nat.succ_ne_zero _)).1 hg2) (cw_X5_find_X5_treeOf_71_th C) 32 rfl rfl rfl (Nat.le_of_ble_eq_true rfl) dX5_find_2 ⟨Nat.le_refl _, Nat.le_refl _⟩)
set_option maxRecDepth 100000 in
theorem c_X5_find_ok {l : Launch} {D : va_G} {cI cZ cJ : ClassId} {ad : Nat → Nat} {S : St} {rest : va_W} {x1 x2 x3 : Int32} {v : Int32} (h : X5_find S x1 x2 x3 = some (0, v)) : ∀ sz, Met l yX5_find wsX5_find (rm_X5_find 0) (PC D (t3 cI cZ cJ) [.ref (ad 32), .int x1, .int x2, .int x3] (wE cI cZ ad S (eo ad (ad 0) (ad 7) rest)) sz) (QI D (t3 cI cZ cJ) (wE cI cZ ad S (eo ad (ad 0) (ad 7) rest)) (wE cI cZ ad S (eo ad (ad 0) (ad 7) rest)) sz v) 0 0 (va_A (wE cI cZ ad S (eo ad (ad 0) (ad 7) rest)) sz) := by
  refine x_met (Qc := fun sz => QI D (t3 cI cZ cJ) (wE cI cZ ad S (eo ad (ad 0) (ad 7) rest)) (wE cI cZ ad S (eo ad (ad 0) (ad 7) rest)) sz v) RX5 rfl (by decide) rfl (Nat.le_of_ble_eq_true rfl) (fun p e s m args below meth c C => ?_)
  exact X_X5_find (z := (0, v)) C (fun h9 => (h9 rfl).elim) h
set_option maxRecDepth 100000 in
theorem c_X5_find_th {l : Launch} {D : va_G} {cI cZ cJ : ClassId} {ad : Nat → Nat} {S : St} {rest : va_W} {x1 x2 x3 : Int32} {v : Int32} {q : Nat} (hfl : l.stackTraces = false) (h : X5_find S x1 x2 x3 = some ((q + 1), v)) : ∀ sz, vx_Met l yX5_find wsX5_find (rm_X5_find (q + 1)) (PX D (t3 cI cZ cJ) [.ref (ad 32), .int x1, .int x2, .int x3] (wE cI cZ ad S (eo ad (ad 0) (ad 7) rest)) sz) nQ (XX D (t3 cI cZ cJ) (wE cI cZ ad S (eo ad (ad 0) (ad 7) rest)) (wE cI cZ ad S (eo ad (ad 0) (ad 7) rest)) sz (exN q)) 1 6 (va_A (wE cI cZ ad S (eo ad (ad 0) (ad 7) rest)) sz) := by
  refine x_metX hfl (XCf := fun sz => XX D (t3 cI cZ cJ) (wE cI cZ ad S (eo ad (ad 0) (ad 7) rest)) (wE cI cZ ad S (eo ad (ad 0) (ad 7) rest)) sz (exN q)) RX5 rfl (by decide) rfl (Nat.le_of_ble_eq_true rfl) (fun p e s m args below meth c C T => ?_)
  exact X_X5_find (z := (q + 1, v)) C (fun _ => T) h
/-! EntryMasters.areAlike()Z -/
abbrev rm_X5_areAlike : Room := { frames := 4, cells := 0, slots := 0, locals := 88 }
theorem hi_X5_areAlike_5 : ∀ z ∈ u_ws RX5 TX5 6, z ∈ wsX5_areAlike := by decide +kernel
theorem lk_X5_areAlike_28 : Cond.fieldLink RX5 28 RX5 "firstTree" "LEntryMasters$Tree;" ∈ wsX5_areAlike := by decide +kernel
theorem lk_X5_areAlike_32 : Cond.fieldLink RX5 32 RX5 "secondTree" "LEntryMasters$Tree;" ∈ wsX5_areAlike := by decide +kernel
theorem cw_X5_areAlike_X4_isSameAs_148 {p : Program} {s : State} {m : MethodId} {args : Array Value} {meth : Method} {c : Code} {D : va_G} {tys : List (ClassId × FieldType)} {R : Room} (C : XC p R s m args meth c cX5_areAlike 1 (some .boolean) RX5 wsX5_areAlike D tys) : CallW rm_X5_areAlike s args RX5 RX4 148 yX4_isSameAs cX4_isSameAs 3 (some .boolean) wsX4_isSameAs rm_X4_isSameAs 0 0 1 := cwV 1 C.2.2.2.2.1 gX5_areAlike_X4_isSameAs rfl rfl rfl (by decide +kernel) ⟨Nat.le_of_ble_eq_true rfl, Nat.le_of_ble_eq_true rfl⟩
def X5_areAlike (S : St) : Option (Int32) :=
  (X4_isSameAs S).bind fun v8 => if v8 &&& 1 = v8 then (some v8) else none
set_option maxHeartbeats 4000000 in
set_option maxRecDepth 100000 in
theorem X_X5_areAlike {p : Program} {l : Launch} {e : Env} {s : State} {m : MethodId} {args : Array Value} {below : List Frame} {meth : Method} {c : Code} {D : va_G} {cI cZ cJ : ClassId} {ad : Nat → Nat} {rest w0 : va_W} (C : XC p rm_X5_areAlike s m args meth c cX5_areAlike 1 (some .boolean) RX5 wsX5_areAlike D (t3 cI cZ cJ)) {S : St} {r : Int32} (h : X5_areAlike S = some r) : XW p l e rm_X5_areAlike s m args below meth c D w0 1 (MQ below (QI D (t3 cI cZ cJ) w0 (wE cI cZ ad S (eo ad (ad 0) (ad 7) rest)) s.heap.size r) args s 0 0 (va_A w0 s.heap.size)) (wE cI cZ ad S (eo ad (ad 0) (ad 7) rest)) 0 0 0 [(0, .ref (ad 32))] [] := by
  unfold X5_areAlike at h
  refine x_aload_n C 0 dX5_areAlike_0 rfl ?_
  refine x_get C (R' := RX5) (T := TX5) (N := 6) (ci := 5) 32 2 rfl rfl (by decide) rfl rfl hi_X5_areAlike_5 lk_X5_areAlike_28 dX5_areAlike_1 ?_
  refine x_aload_n C 0 dX5_areAlike_4 rfl ?_
  refine x_get C (R' := RX5) (T := TX5) (N := 6) (ci := 5) 32 3 rfl rfl (by decide) rfl rfl hi_X5_areAlike_5 lk_X5_areAlike_32 dX5_areAlike_5 ?_
  obtain ⟨v8, hg8, h⟩ := ob h
  refine x_ci0 (x_runV C (As := [.ref (ad 7)]) (rest := []) (c_X4_isSameAs hg8) (cw_X5_areAlike_X4_isSameAs_148 C) 0 rfl rfl rfl (Nat.le_of_ble_eq_true rfl) dX5_areAlike_8 ⟨Nat.zero_le _, Nat.zero_le _⟩) ?_
  obtain ⟨g11, h⟩ := gd h
  obtain rfl := Option.some.inj h
  exact x_zret C g11 dX5_areAlike_11
set_option maxRecDepth 100000 in
theorem c_X5_areAlike {l : Launch} {D : va_G} {cI cZ cJ : ClassId} {ad : Nat → Nat} {S : St} {rest : va_W} {r : Int32} (h : X5_areAlike S = some r) : ∀ sz, Met l yX5_areAlike wsX5_areAlike rm_X5_areAlike (PC D (t3 cI cZ cJ) [.ref (ad 32)] (wE cI cZ ad S (eo ad (ad 0) (ad 7) rest)) sz) (QI D (t3 cI cZ cJ) (wE cI cZ ad S (eo ad (ad 0) (ad 7) rest)) (wE cI cZ ad S (eo ad (ad 0) (ad 7) rest)) sz r) 0 0 (va_A (wE cI cZ ad S (eo ad (ad 0) (ad 7) rest)) sz) := by
  refine x_met (Qc := fun sz => QI D (t3 cI cZ cJ) (wE cI cZ ad S (eo ad (ad 0) (ad 7) rest)) (wE cI cZ ad S (eo ad (ad 0) (ad 7) rest)) sz r) RX5 rfl (by decide) rfl (Nat.le_of_ble_eq_true rfl) (fun p e s m args below meth c C => ?_)
  exact X_X5_areAlike C h
/-! EntryMasters.setRight(III)V -/
abbrev rm_X5_setRight (kc : Nat) : Room := rmf 7 104 kc
theorem hi_X5_setRight_5 : ∀ z ∈ u_ws RX5 TX5 6, z ∈ wsX5_setRight := by decide +kernel
theorem lk_X5_setRight_38 : Cond.fieldLink RX5 38 RX5 "marks" "LEntryMasters$Marks;" ∈ wsX5_setRight := by decide +kernel
theorem cw_X5_setRight_X3_putRight_152 {p : Program} {s : State} {m : MethodId} {args : Array Value} {meth : Method} {c : Code} {D : va_G} {tys : List (ClassId × FieldType)} {R : Room} {kc : Nat} (C : XC p R s m args meth c cX5_setRight 4 none RX5 wsX5_setRight D tys) : CallW (rm_X5_setRight kc) s args RX5 RX3 152 yX3_putRight cX3_putRight 4 none wsX3_putRight rm_X3_putRight 0 0 3 := cwV 3 C.2.2.2.2.1 gX5_setRight_X3_putRight rfl rfl rfl (by decide +kernel) ⟨Nat.le_of_ble_eq_true rfl, Nat.le_of_ble_eq_true rfl⟩
theorem cw_X5_setRight_X5_checkArgument_53 {p : Program} {s : State} {m : MethodId} {args : Array Value} {meth : Method} {c : Code} {D : va_G} {tys : List (ClassId × FieldType)} {R : Room} {kc : Nat} (C : XC p R s m args meth c cX5_setRight 4 none RX5 wsX5_setRight D tys) : CallB (rm_X5_setRight kc) s args RX5 53 yX5_checkArgument cX5_checkArgument 3 none wsX5_checkArgument (rm_X5_checkArgument 0) 0 0 3 ∧ (Cond.static yX5_checkArgument).before args s = true := va_cwS 3 C.2.2.2.2.1 gX5_setRight_X5_checkArgument rfl rfl rfl (by decide +kernel) ⟨Nat.le_of_ble_eq_true rfl, Nat.le_of_ble_eq_true rfl⟩
theorem cw_X5_setRight_X5_checkArgument_53_th {p : Program} {s : State} {m : MethodId} {args : Array Value} {meth : Method} {c : Code} {D : va_G} {tys : List (ClassId × FieldType)} {R : Room} {kc : Nat} {q : Nat} (C : XC p R s m args meth c cX5_setRight 4 none RX5 wsX5_setRight D tys) : CallB (rm_X5_setRight kc) s args RX5 53 yX5_checkArgument cX5_checkArgument 3 none wsX5_checkArgument (rm_X5_checkArgument (q + 1)) 1 6 3 ∧ (Cond.static yX5_checkArgument).before args s = true := va_cwS 3 C.2.2.2.2.1 gX5_setRight_X5_checkArgument rfl rfl rfl (by decide +kernel) ⟨Nat.le_of_ble_eq_true rfl, Nat.le_of_ble_eq_true rfl⟩
theorem cw_X5_setRight_X5_checkIndex_49 {p : Program} {s : State} {m : MethodId} {args : Array Value} {meth : Method} {c : Code} {D : va_G} {tys : List (ClassId × FieldType)} {R : Room} {kc : Nat} (C : XC p R s m args meth c cX5_setRight 4 none RX5 wsX5_setRight D tys) : CallB (rm_X5_setRight kc) s args RX5 49 yX5_checkIndex cX5_checkIndex 2 none wsX5_checkIndex (rm_X5_checkIndex 0) 0 0 2 ∧ (Cond.static yX5_checkIndex).before args s = true := va_cwS 2 C.2.2.2.2.1 gX5_setRight_X5_checkIndex rfl rfl rfl (by decide +kernel) ⟨Nat.le_of_ble_eq_true rfl, Nat.le_of_ble_eq_true rfl⟩
theorem cw_X5_setRight_X5_checkIndex_49_th {p : Program} {s : State} {m : MethodId} {args : Array Value} {meth : Method} {c : Code} {D : va_G} {tys : List (ClassId × FieldType)} {R : Room} {kc : Nat} {q : Nat} (C : XC p R s m args meth c cX5_setRight 4 none RX5 wsX5_setRight D tys) : CallB (rm_X5_setRight kc) s args RX5 49 yX5_checkIndex cX5_checkIndex 2 none wsX5_checkIndex (rm_X5_checkIndex (q + 1)) 1 6 2 ∧ (Cond.static yX5_checkIndex).before args s = true := va_cwS 2 C.2.2.2.2.1 gX5_setRight_X5_checkIndex rfl rfl rfl (by decide +kernel) ⟨Nat.le_of_ble_eq_true rfl, Nat.le_of_ble_eq_true rfl⟩
def X5_setRight_b27 (S : St) : Option (Nat × St) :=
  some (0, S)
set_option maxHeartbeats 4000000 in
set_option maxRecDepth 100000 in
theorem X_X5_setRight_b27 {p : Program} {l : Launch} {e : Env} {s : State} {m : MethodId} {args : Array Value} {below : List Frame} {meth : Method} {c : Code} {D : va_G} {cI cZ cJ : ClassId} {ad : Nat → Nat} {rest w0 : va_W} {x y : Nat} {z : Nat × St} (C : XC p (rm_X5_setRight z.1) s m args meth c cX5_setRight 4 none RX5 wsX5_setRight D (t3 cI cZ cJ)) (T : z.1 ≠ 0 → XT l s c w0) {S : St} (h : X5_setRight_b27 S = some z) : XW p l e (rm_X5_setRight z.1) s m args below meth c D w0 4 (QZ z.1 (MQ below (QV D (t3 cI cZ cJ) w0 (wE cI cZ ad z.2 (eo ad x y rest)) s.heap.size) args s 0 0 (va_A w0 s.heap.size)) (fun q9 => vx_MQ below nQ (XX D (t3 cI cZ cJ) w0 (wE cI cZ ad z.2 (eo ad x y rest)) s.heap.size (exN q9)) args s 1 6 (va_A w0 s.heap.size))) (wE cI cZ ad S (eo ad x y rest)) 0 0 27 [] [] := by
  unfold X5_setRight_b27 at h
  obtain rfl := Option.some.inj h
  exact x_vret C dX5_setRight_27
def X5_setRight (S : St) (x1 x2 x3 : Int32) : Option (Nat × St) :=
  (X5_checkIndex x1 3).bind fun q2 => if q2 = 0 then ((X5_checkIndex x2 42).bind fun q8 => if q8 = 0 then ((X5_checkArgument x3 (-1) 1).bind fun q14 => if q14 = 0 then ((X3_putRight S x1 x2 x3).bind fun S24 => X5_setRight_b27 S24) else some (q14, S)) else some (q8, S)) else some (q2, S)
set_option maxHeartbeats 4000000 in
set_option maxRecDepth 100000 in
theorem X_X5_setRight {p : Program} {l : Launch} {e : Env} {s : State} {m : MethodId} {args : Array Value} {below : List Frame} {meth : Method} {c : Code} {D : va_G} {cI cZ cJ : ClassId} {ad : Nat → Nat} {rest w0 : va_W} {x y : Nat} {z : Nat × St} (C : XC p (rm_X5_setRight z.1) s m args meth c cX5_setRight 4 none RX5 wsX5_setRight D (t3 cI cZ cJ)) (T : z.1 ≠ 0 → XT l s c w0) {S : St} {x1 x2 x3 : Int32} (h : X5_setRight S x1 x2 x3 = some z) : XW p l e (rm_X5_setRight z.1) s m args below meth c D w0 4 (QZ z.1 (MQ below (QV D (t3 cI cZ cJ) w0 (wE cI cZ ad z.2 (eo ad x y rest)) s.heap.size) args s 0 0 (va_A w0 s.heap.size)) (fun q9 => vx_MQ below nQ (XX D (t3 cI cZ cJ) w0 (wE cI cZ ad z.2 (eo ad x y rest)) s.heap.size (exN q9)) args s 1 6 (va_A w0 s.heap.size))) (wE cI cZ ad S (eo ad x y rest)) 0 0 0 [(0, .ref (ad 32)), (1, .int x1), (2, .int x2), (3, .int x3)] [] := by
  unfold X5_setRight at h
  refine x_iload_n C 1 dX5_setRight_0 rfl ?_
  refine x_iconst C (v := 3) dX5_setRight_1 (by decide) ?_
  obtain ⟨q2, hg2, h⟩ := ob h
  cases q2 with
  | zero =>
    replace h := (if_pos (c := (0 : Nat) = 0) rfl).symm.trans h
    refine x_cv0 (x_runS C (As := [.int x1, .int 3]) (rest := []) (c_X5_checkIndex_ok hg2) (cw_X5_setRight_X5_checkIndex_49 C) rfl (Nat.le_of_ble_eq_true rfl) dX5_setRight_2 ⟨Nat.zero_le _, Nat.zero_le _⟩) ?_
    refine x_iload_n C 2 dX5_setRight_5 rfl ?_
    refine x_bipush C (v := 42) dX5_setRight_6 (by decide) ?_
    obtain ⟨q8, hg8, h⟩ := ob h
    cases q8 with
    | zero =>
      replace h := (if_pos (c := (0 : Nat) = 0) rfl).symm.trans h
      refine x_cv0 (x_runS C (As := [.int x2, .int 42]) (rest := []) (c_X5_checkIndex_ok hg8) (cw_X5_setRight_X5_checkIndex_49 C) rfl (Nat.le_of_ble_eq_true rfl) dX5_setRight_8 ⟨Nat.zero_le _, Nat.zero_le _⟩) ?_
      refine x_iload_n C 3 dX5_setRight_11 rfl ?_
      refine x_iconst C (v := (-1)) dX5_setRight_12 (by decide) ?_
      refine x_iconst C (v := 1) dX5_setRight_13 (by decide) ?_
      obtain ⟨q14, hg14, h⟩ := ob h
      cases q14 with
      | zero =>
        replace h := (if_pos (c := (0 : Nat) = 0) rfl).symm.trans h
        refine x_cv0 (x_runS C (As := [.int x3, .int (-1), .int 1]) (rest := []) (c_X5_checkArgument_ok hg14) (cw_X5_setRight_X5_checkArgument_53 C) rfl (Nat.le_of_ble_eq_true rfl) dX5_setRight_14 ⟨Nat.zero_le _, Nat.zero_le _⟩) ?_
        refine x_aload_n C 0 dX5_setRight_17 rfl ?_
        refine x_get C (R' := RX5) (T := TX5) (N := 6) (ci := 5) 32 4 rfl rfl (by decide) rfl rfl hi_X5_setRight_5 lk_X5_setRight_38 dX5_setRight_18 ?_
        refine x_iload_n C 1 dX5_setRight_21 rfl ?_
        refine x_iload_n C 2 dX5_setRight_22 rfl ?_
        refine x_iload_n C 3 dX5_setRight_23 rfl ?_
        obtain ⟨S24, hg24, h⟩ := ob h
        refine x_cv0 (x_runV C (As := [.int x1, .int x2, .int x3]) (rest := []) (c_X3_putRight hg24) (cw_X5_setRight_X3_putRight_152 C) 24 rfl rfl rfl (Nat.le_of_ble_eq_true rfl) dX5_setRight_24 ⟨Nat.zero_le _, Nat.zero_le _⟩) ?_
        refine x_locals (lv' := []) [] rfl ?_
        exact X_X5_setRight_b27 C T h
      | succ q14 =>
        replace h := (if_neg (Nat.succ_ne_zero q14)).symm.trans h
        obtain rfl := Option.some.inj h
        exact x_cx C (T (Nat.succ_ne_zero _)) (x_runSX C (T (Nat.succ_ne_zero _)).2.2 (As := [.int x3, .int (-1), .int 1]) (rest := []) (c_X5_checkArgument_th (T (Nat.succ_ne_zero _)).1 hg14) (cw_X5_setRight_X5_checkArgument_53_th C) rfl (Nat.le_of_ble_eq_true rfl) dX5_setRight_14 ⟨Nat.le_refl _, Nat.le_refl _⟩)
    | succ q8 =>
      replace h := (if_neg (Nat.succ_ne_zero q8)).symm.trans h
      obtain rfl := Option.some.inj h
      exact x_cx C (T (Nat.succ_ne_zero _)) (x_runSX C (T (Nat.succ_ne_zero _)).2.2 (As := [.int x2, .int 42]) (rest := []) (c_X5_checkIndex_th (T (Nat.succ_ne_zero _)).1 hg8) (cw_X5_setRight_X5_checkIndex_49_th C) rfl (Nat.le_of_ble_eq_true rfl) dX5_setRight_8 ⟨Nat.le_refl _, Nat.le_refl _⟩)
  | succ q2 =>
    replace h := (if_neg (Nat.succ_ne_zero q2)).symm.trans h
    obtain rfl := Option.some.inj h
    exact x_cx C (T (Nat.succ_ne_zero _)) (x_runSX C (T (Nat.succ_ne_zero _)).2.2 (As := [.int x1, .int 3]) (rest := []) (c_X5_checkIndex_th (T (Nat.succ_ne_zero _)).1 hg2) (cw_X5_setRight_X5_checkIndex_49_th C) rfl (Nat.le_of_ble_eq_true rfl) dX5_setRight_2 ⟨Nat.le_refl _, Nat.le_refl _⟩)
set_option maxRecDepth 100000 in
theorem c_X5_setRight_ok {l : Launch} {D : va_G} {cI cZ cJ : ClassId} {ad : Nat → Nat} {S : St} {rest : va_W} {x y : Nat} {x1 x2 x3 : Int32} {S' : St} (h : X5_setRight S x1 x2 x3 = some (0, S')) : ∀ sz, Met l yX5_setRight wsX5_setRight (rm_X5_setRight 0) (PC D (t3 cI cZ cJ) [.ref (ad 32), .int x1, .int x2, .int x3] (wE cI cZ ad S (eo ad x y rest)) sz) (QV D (t3 cI cZ cJ) (wE cI cZ ad S (eo ad x y rest)) (wE cI cZ ad S' (eo ad x y rest)) sz) 0 0 (va_A (wE cI cZ ad S (eo ad x y rest)) sz) := by
  refine x_met (Qc := fun sz => QV D (t3 cI cZ cJ) (wE cI cZ ad S (eo ad x y rest)) (wE cI cZ ad S' (eo ad x y rest)) sz) RX5 rfl (by decide) rfl (Nat.le_of_ble_eq_true rfl) (fun p e s m args below meth c C => ?_)
  exact X_X5_setRight (z := (0, S')) C (fun h9 => (h9 rfl).elim) h
set_option maxRecDepth 100000 in
theorem c_X5_setRight_th {l : Launch} {D : va_G} {cI cZ cJ : ClassId} {ad : Nat → Nat} {S : St} {rest : va_W} {x y : Nat} {x1 x2 x3 : Int32} {S' : St} {q : Nat} (hfl : l.stackTraces = false) (h : X5_setRight S x1 x2 x3 = some ((q + 1), S')) : ∀ sz, vx_Met l yX5_setRight wsX5_setRight (rm_X5_setRight (q + 1)) (PX D (t3 cI cZ cJ) [.ref (ad 32), .int x1, .int x2, .int x3] (wE cI cZ ad S (eo ad x y rest)) sz) nQ (XX D (t3 cI cZ cJ) (wE cI cZ ad S (eo ad x y rest)) (wE cI cZ ad S' (eo ad x y rest)) sz (exN q)) 1 6 (va_A (wE cI cZ ad S (eo ad x y rest)) sz) := by
  refine x_metX hfl (XCf := fun sz => XX D (t3 cI cZ cJ) (wE cI cZ ad S (eo ad x y rest)) (wE cI cZ ad S' (eo ad x y rest)) sz (exN q)) RX5 rfl (by decide) rfl (Nat.le_of_ble_eq_true rfl) (fun p e s m args below meth c C T => ?_)
  exact X_X5_setRight (z := (q + 1, S')) C (fun _ => T) h
/-! EntryMasters.refer(IZ)V -/
abbrev rm_X5_refer (kc : Nat) : Room := rmf 7 103 kc
theorem hi_X5_refer_5 : ∀ z ∈ u_ws RX5 TX5 6, z ∈ wsX5_refer := by decide +kernel
theorem lk_X5_refer_38 : Cond.fieldLink RX5 38 RX5 "marks" "LEntryMasters$Marks;" ∈ wsX5_refer := by decide +kernel
theorem cw_X5_refer_X3_putReferral_155 {p : Program} {s : State} {m : MethodId} {args : Array Value} {meth : Method} {c : Code} {D : va_G} {tys : List (ClassId × FieldType)} {R : Room} {kc : Nat} (C : XC p R s m args meth c cX5_refer 3 none RX5 wsX5_refer D tys) : CallW (rm_X5_refer kc) s args RX5 RX3 155 yX3_putReferral cX3_putReferral 3 none wsX3_putReferral rm_X3_putReferral 0 0 2 := cwV 2 C.2.2.2.2.1 gX5_refer_X3_putReferral rfl rfl rfl (by decide +kernel) ⟨Nat.le_of_ble_eq_true rfl, Nat.le_of_ble_eq_true rfl⟩
theorem cw_X5_refer_X5_checkIndex_49 {p : Program} {s : State} {m : MethodId} {args : Array Value} {meth : Method} {c : Code} {D : va_G} {tys : List (ClassId × FieldType)} {R : Room} {kc : Nat} (C : XC p R s m args meth c cX5_refer 3 none RX5 wsX5_refer D tys) : CallB (rm_X5_refer kc) s args RX5 49 yX5_checkIndex cX5_checkIndex 2 none wsX5_checkIndex (rm_X5_checkIndex 0) 0 0 2 ∧ (Cond.static yX5_checkIndex).before args s = true := va_cwS 2 C.2.2.2.2.1 gX5_refer_X5_checkIndex rfl rfl rfl (by decide +kernel) ⟨Nat.le_of_ble_eq_true rfl, Nat.le_of_ble_eq_true rfl⟩
theorem cw_X5_refer_X5_checkIndex_49_th {p : Program} {s : State} {m : MethodId} {args : Array Value} {meth : Method} {c : Code} {D : va_G} {tys : List (ClassId × FieldType)} {R : Room} {kc : Nat} {q : Nat} (C : XC p R s m args meth c cX5_refer 3 none RX5 wsX5_refer D tys) : CallB (rm_X5_refer kc) s args RX5 49 yX5_checkIndex cX5_checkIndex 2 none wsX5_checkIndex (rm_X5_checkIndex (q + 1)) 1 6 2 ∧ (Cond.static yX5_checkIndex).before args s = true := va_cwS 2 C.2.2.2.2.1 gX5_refer_X5_checkIndex rfl rfl rfl (by decide +kernel) ⟨Nat.le_of_ble_eq_true rfl, Nat.le_of_ble_eq_true rfl⟩
def X5_refer_b15 (S : St) : Option (Nat × St) :=
  some (0, S)
set_option maxHeartbeats 4000000 in
set_option maxRecDepth 100000 in
theorem X_X5_refer_b15 {p : Program} {l : Launch} {e : Env} {s : State} {m : MethodId} {args : Array Value} {below : List Frame} {meth : Method} {c : Code} {D : va_G} {cI cZ cJ : ClassId} {ad : Nat → Nat} {rest w0 : va_W} {x y : Nat} {z : Nat × St} (C : XC p (rm_X5_refer z.1) s m args meth c cX5_refer 3 none RX5 wsX5_refer D (t3 cI cZ cJ)) (T : z.1 ≠ 0 → XT l s c w0) {S : St} (h : X5_refer_b15 S = some z) : XW p l e (rm_X5_refer z.1) s m args below meth c D w0 3 (QZ z.1 (MQ below (QV D (t3 cI cZ cJ) w0 (wE cI cZ ad z.2 (eo ad x y rest)) s.heap.size) args s 0 0 (va_A w0 s.heap.size)) (fun q9 => vx_MQ below nQ (XX D (t3 cI cZ cJ) w0 (wE cI cZ ad z.2 (eo ad x y rest)) s.heap.size (exN q9)) args s 1 6 (va_A w0 s.heap.size))) (wE cI cZ ad S (eo ad x y rest)) 0 0 15 [] [] := by
  unfold X5_refer_b15 at h
  obtain rfl := Option.some.inj h
  exact x_vret C dX5_refer_15
def X5_refer (S : St) (x1 x2 : Int32) : Option (Nat × St) :=
  (X5_checkIndex x1 42).bind fun q3 => if q3 = 0 then ((X3_putReferral S x1 x2).bind fun S12 => X5_refer_b15 S12) else some (q3, S)
set_option maxHeartbeats 4000000 in
set_option maxRecDepth 100000 in
theorem X_X5_refer {p : Program} {l : Launch} {e : Env} {s : State} {m : MethodId} {args : Array Value} {below : List Frame} {meth : Method} {c : Code} {D : va_G} {cI cZ cJ : ClassId} {ad : Nat → Nat} {rest w0 : va_W} {x y : Nat} {z : Nat × St} (C : XC p (rm_X5_refer z.1) s m args meth c cX5_refer 3 none RX5 wsX5_refer D (t3 cI cZ cJ)) (T : z.1 ≠ 0 → XT l s c w0) {S : St} {x1 x2 : Int32} (h : X5_refer S x1 x2 = some z) : XW p l e (rm_X5_refer z.1) s m args below meth c D w0 3 (QZ z.1 (MQ below (QV D (t3 cI cZ cJ) w0 (wE cI cZ ad z.2 (eo ad x y rest)) s.heap.size) args s 0 0 (va_A w0 s.heap.size)) (fun q9 => vx_MQ below nQ (XX D (t3 cI cZ cJ) w0 (wE cI cZ ad z.2 (eo ad x y rest)) s.heap.size (exN q9)) args s 1 6 (va_A w0 s.heap.size))) (wE cI cZ ad S (eo ad x y rest)) 0 0 0 [(0, .ref (ad 32)), (1, .int x1), (2, .int x2)] [] := by
  unfold X5_refer at h
  refine x_iload_n C 1 dX5_refer_0 rfl ?_
  refine x_bipush C (v := 42) dX5_refer_1 (by decide) ?_
  obtain ⟨q3, hg3, h⟩ := ob h
  cases q3 with
  | zero =>
    replace h := (if_pos (c := (0 : Nat) = 0) rfl).symm.trans h
    refine x_cv0 (x_runS C (As := [.int x1, .int 42]) (rest := []) (c_X5_checkIndex_ok hg3) (cw_X5_refer_X5_checkIndex_49 C) rfl (Nat.le_of_ble_eq_true rfl) dX5_refer_3 ⟨Nat.zero_le _, Nat.zero_le _⟩) ?_
    refine x_aload_n C 0 dX5_refer_6 rfl ?_
    refine x_get C (R' := RX5) (T := TX5) (N := 6) (ci := 5) 32 4 rfl rfl (by decide) rfl rfl hi_X5_refer_5 lk_X5_refer_38 dX5_refer_7 ?_
    refine x_iload_n C 1 dX5_refer_10 rfl ?_
    refine x_iload_n C 2 dX5_refer_11 rfl ?_
    obtain ⟨S12, hg12, h⟩ := ob h
    refine x_cv0 (x_runV C (As := [.int x1, .int x2]) (rest := []) (c_X3_putReferral hg12) (cw_X5_refer_X3_putReferral_155 C) 24 rfl rfl rfl (Nat.le_of_ble_eq_true rfl) dX5_refer_12 ⟨Nat.zero_le _, Nat.zero_le _⟩) ?_
    refine x_locals (lv' := []) [] rfl ?_
    exact X_X5_refer_b15 C T h
  | succ q3 =>
    replace h := (if_neg (Nat.succ_ne_zero q3)).symm.trans h
    obtain rfl := Option.some.inj h
    exact x_cx C (T (Nat.succ_ne_zero _)) (x_runSX C (T (Nat.succ_ne_zero _)).2.2 (As := [.int x1, .int 42]) (rest := []) (c_X5_checkIndex_th (T (Nat.succ_ne_zero _)).1 hg3) (cw_X5_refer_X5_checkIndex_49_th C) rfl (Nat.le_of_ble_eq_true rfl) dX5_refer_3 ⟨Nat.le_refl _, Nat.le_refl _⟩)
set_option maxRecDepth 100000 in
theorem c_X5_refer_ok {l : Launch} {D : va_G} {cI cZ cJ : ClassId} {ad : Nat → Nat} {S : St} {rest : va_W} {x y : Nat} {x1 x2 : Int32} {S' : St} (h : X5_refer S x1 x2 = some (0, S')) : ∀ sz, Met l yX5_refer wsX5_refer (rm_X5_refer 0) (PC D (t3 cI cZ cJ) [.ref (ad 32), .int x1, .int x2] (wE cI cZ ad S (eo ad x y rest)) sz) (QV D (t3 cI cZ cJ) (wE cI cZ ad S (eo ad x y rest)) (wE cI cZ ad S' (eo ad x y rest)) sz) 0 0 (va_A (wE cI cZ ad S (eo ad x y rest)) sz) := by
  refine x_met (Qc := fun sz => QV D (t3 cI cZ cJ) (wE cI cZ ad S (eo ad x y rest)) (wE cI cZ ad S' (eo ad x y rest)) sz) RX5 rfl (by decide) rfl (Nat.le_of_ble_eq_true rfl) (fun p e s m args below meth c C => ?_)
  exact X_X5_refer (z := (0, S')) C (fun h9 => (h9 rfl).elim) h
set_option maxRecDepth 100000 in
theorem c_X5_refer_th {l : Launch} {D : va_G} {cI cZ cJ : ClassId} {ad : Nat → Nat} {S : St} {rest : va_W} {x y : Nat} {x1 x2 : Int32} {S' : St} {q : Nat} (hfl : l.stackTraces = false) (h : X5_refer S x1 x2 = some ((q + 1), S')) : ∀ sz, vx_Met l yX5_refer wsX5_refer (rm_X5_refer (q + 1)) (PX D (t3 cI cZ cJ) [.ref (ad 32), .int x1, .int x2] (wE cI cZ ad S (eo ad x y rest)) sz) nQ (XX D (t3 cI cZ cJ) (wE cI cZ ad S (eo ad x y rest)) (wE cI cZ ad S' (eo ad x y rest)) sz (exN q)) 1 6 (va_A (wE cI cZ ad S (eo ad x y rest)) sz) := by
  refine x_metX hfl (XCf := fun sz => XX D (t3 cI cZ cJ) (wE cI cZ ad S (eo ad x y rest)) (wE cI cZ ad S' (eo ad x y rest)) sz (exN q)) RX5 rfl (by decide) rfl (Nat.le_of_ble_eq_true rfl) (fun p e s m args below meth c C T => ?_)
  exact X_X5_refer (z := (q + 1, S')) C (fun _ => T) h
/-! EntryMasters.checkRoomForFilter()V -/
abbrev rm_X5_checkRoomForFilter (kc : Nat) : Room := rmf 6 82 kc
theorem thr_X5_checkRoomForFilter_2_k : Cond.classLink RX5 61 (exN 2) ∈ wsX5_checkRoomForFilter := by decide +kernel
theorem thr_X5_checkRoomForFilter_2_i : Cond.initialized (exN 2) ∈ wsX5_checkRoomForFilter := by decide +kernel
theorem thr_X5_checkRoomForFilter_2_a : ∀ z ∈ (vx_atS RX5 65 (exN 2) ["java/lang/RuntimeException", "java/lang/Exception"]).filter goodWord, z ∈ wsX5_checkRoomForFilter := by decide +kernel
theorem thr_X5_checkRoomForFilter_2_b : ∀ z ∈ (vx_atS RX5 65 (exN 2) ["java/lang/RuntimeException", "java/lang/Exception"]).filter (fun z => !goodWord z), z ∈ [Cond.castable (exN 2) (exN 2), Cond.declares (Bundle.initS (deN 0)), Cond.declares (Bundle.initS (deN 1)), Cond.declares (Bundle.initS (deN 2))] := by decide +kernel
theorem thr_X5_checkRoomForFilter_2_g : ∀ z ∈ Cond.classLink RX5 61 (exN 2) :: Cond.initialized (exN 2) :: vx_atS RX5 65 (exN 2) ["java/lang/RuntimeException", "java/lang/Exception"], vx_ot z = true := by decide +kernel
theorem hi_X5_checkRoomForFilter_1 : ∀ z ∈ u_ws RX1 TX1 5, z ∈ wsX5_checkRoomForFilter := by decide +kernel
theorem hi_X5_checkRoomForFilter_5 : ∀ z ∈ u_ws RX5 TX5 6, z ∈ wsX5_checkRoomForFilter := by decide +kernel
theorem lk_X5_checkRoomForFilter_45 : Cond.fieldLink RX5 45 RX5 "filters" "LEntryMasters$Filters;" ∈ wsX5_checkRoomForFilter := by decide +kernel
def X5_checkRoomForFilter (S : St) : Option (Nat) :=
  if (S 27 4) < 20 then (some 0) else (some 3)
set_option maxHeartbeats 4000000 in
set_option maxRecDepth 100000 in
theorem X_X5_checkRoomForFilter {p : Program} {l : Launch} {e : Env} {s : State} {m : MethodId} {args : Array Value} {below : List Frame} {meth : Method} {c : Code} {D : va_G} {cI cZ cJ : ClassId} {ad : Nat → Nat} {rest w0 : va_W} {x y : Nat} {z : Nat} (C : XC p (rm_X5_checkRoomForFilter z) s m args meth c cX5_checkRoomForFilter 1 none RX5 wsX5_checkRoomForFilter D (t3 cI cZ cJ)) (T : z ≠ 0 → XT l s c w0) {S : St} (h : X5_checkRoomForFilter S = some z) : XW p l e (rm_X5_checkRoomForFilter z) s m args below meth c D w0 1 (QZ z (MQ below (QV D (t3 cI cZ cJ) w0 (wE cI cZ ad S (eo ad x y rest)) s.heap.size) args s 0 0 (va_A w0 s.heap.size)) (fun q9 => vx_MQ below nQ (XX D (t3 cI cZ cJ) w0 (wE cI cZ ad S (eo ad x y rest)) s.heap.size (exN q9)) args s 1 6 (va_A w0 s.heap.size))) (wE cI cZ ad S (eo ad x y rest)) 0 0 0 [(0, .ref (ad 32))] [] := by
  unfold X5_checkRoomForFilter at h
  refine x_aload_n C 0 dX5_checkRoomForFilter_0 rfl ?_
  refine x_get C (R' := RX5) (T := TX5) (N := 6) (ci := 5) 32 5 rfl rfl (by decide) rfl rfl hi_X5_checkRoomForFilter_5 lk_X5_checkRoomForFilter_45 dX5_checkRoomForFilter_1 ?_
  refine x_getN C (R' := RX1) (T := TX1) (N := 5) (ci := 1) 27 4 rfl rfl (by decide) rfl rfl hi_X5_checkRoomForFilter_1 (nf_mem 1 rfl) dX5_checkRoomForFilter_4 ?_
  refine x_bipush C (v := 20) dX5_checkRoomForFilter_7 (by decide) ?_
  refine x_icmp_lt C (t := 22) dX5_checkRoomForFilter_9 (by decide) (fun c9 => ?_) (fun c9 => ?_)
  · replace h := (if_pos c9).symm.trans h
    obtain rfl := Option.some.inj h
    exact x_vret C dX5_checkRoomForFilter_22
  · replace h := (if_neg c9).symm.trans h
    obtain rfl := Option.some.inj h
    exact x_throw C (T (Nat.succ_ne_zero _)) (kk := 2) rfl (st_mem 9 rfl) thr_X5_checkRoomForFilter_2_k thr_X5_checkRoomForFilter_2_i thr_X5_checkRoomForFilter_2_a thr_X5_checkRoomForFilter_2_b thr_X5_checkRoomForFilter_2_g (by decide +kernel) dX5_checkRoomForFilter_12 dX5_checkRoomForFilter_15 dX5_checkRoomForFilter_16 dX5_checkRoomForFilter_18 dX5_checkRoomForFilter_21 (lt_ble rfl) (Nat.le_of_ble_eq_true rfl) (Nat.le_refl _) (Nat.le_refl _)
set_option maxRecDepth 100000 in
theorem c_X5_checkRoomForFilter_ok {l : Launch} {D : va_G} {cI cZ cJ : ClassId} {ad : Nat → Nat} {S : St} {rest : va_W} {x y : Nat} (h : X5_checkRoomForFilter S = some 0) : ∀ sz, Met l yX5_checkRoomForFilter wsX5_checkRoomForFilter (rm_X5_checkRoomForFilter 0) (PC D (t3 cI cZ cJ) [.ref (ad 32)] (wE cI cZ ad S (eo ad x y rest)) sz) (QV D (t3 cI cZ cJ) (wE cI cZ ad S (eo ad x y rest)) (wE cI cZ ad S (eo ad x y rest)) sz) 0 0 (va_A (wE cI cZ ad S (eo ad x y rest)) sz) := by
  refine x_met (Qc := fun sz => QV D (t3 cI cZ cJ) (wE cI cZ ad S (eo ad x y rest)) (wE cI cZ ad S (eo ad x y rest)) sz) RX5 rfl (by decide) rfl (Nat.le_of_ble_eq_true rfl) (fun p e s m args below meth c C => ?_)
  exact X_X5_checkRoomForFilter (z := 0) C (fun h9 => (h9 rfl).elim) h
set_option maxRecDepth 100000 in
theorem c_X5_checkRoomForFilter_th {l : Launch} {D : va_G} {cI cZ cJ : ClassId} {ad : Nat → Nat} {S : St} {rest : va_W} {x y : Nat} {q : Nat} (hfl : l.stackTraces = false) (h : X5_checkRoomForFilter S = some (q + 1)) : ∀ sz, vx_Met l yX5_checkRoomForFilter wsX5_checkRoomForFilter (rm_X5_checkRoomForFilter (q + 1)) (PX D (t3 cI cZ cJ) [.ref (ad 32)] (wE cI cZ ad S (eo ad x y rest)) sz) nQ (XX D (t3 cI cZ cJ) (wE cI cZ ad S (eo ad x y rest)) (wE cI cZ ad S (eo ad x y rest)) sz (exN q)) 1 6 (va_A (wE cI cZ ad S (eo ad x y rest)) sz) := by
  refine x_metX hfl (XCf := fun sz => XX D (t3 cI cZ cJ) (wE cI cZ ad S (eo ad x y rest)) (wE cI cZ ad S (eo ad x y rest)) sz (exN q)) RX5 rfl (by decide) rfl (Nat.le_of_ble_eq_true rfl) (fun p e s m args below meth c C T => ?_)
  exact X_X5_checkRoomForFilter (z := q + 1) C (fun _ => T) h
/-! EntryMasters.test(III)I -/
abbrev rm_X5_test (kc : Nat) : Room := rmf 7 104 kc
theorem hi_X5_test_5 : ∀ z ∈ u_ws RX5 TX5 6, z ∈ wsX5_test := by decide +kernel
theorem lk_X5_test_45 : Cond.fieldLink RX5 45 RX5 "filters" "LEntryMasters$Filters;" ∈ wsX5_test := by decide +kernel
theorem cw_X5_test_X1_append_162 {p : Program} {s : State} {m : MethodId} {args : Array Value} {meth : Method} {c : Code} {D : va_G} {tys : List (ClassId × FieldType)} {R : Room} {kc : Nat} (C : XC p R s m args meth c cX5_test 4 (some .int) RX5 wsX5_test D tys) : CallW (rm_X5_test kc) s args RX5 RX1 162 yX1_append cX1_append 5 (some .int) wsX1_append rm_X1_append 0 0 3 := cwV 3 C.2.2.2.2.1 gX5_test_X1_append rfl rfl rfl (by decide +kernel) ⟨Nat.le_of_ble_eq_true rfl, Nat.le_of_ble_eq_true rfl⟩
theorem cw_X5_test_X5_checkArgument_53 {p : Program} {s : State} {m : MethodId} {args : Array Value} {meth : Method} {c : Code} {D : va_G} {tys : List (ClassId × FieldType)} {R : Room} {kc : Nat} (C : XC p R s m args meth c cX5_test 4 (some .int) RX5 wsX5_test D tys) : CallB (rm_X5_test kc) s args RX5 53 yX5_checkArgument cX5_checkArgument 3 none wsX5_checkArgument (rm_X5_checkArgument 0) 0 0 3 ∧ (Cond.static yX5_checkArgument).before args s = true := va_cwS 3 C.2.2.2.2.1 gX5_test_X5_checkArgument rfl rfl rfl (by decide +kernel) ⟨Nat.le_of_ble_eq_true rfl, Nat.le_of_ble_eq_true rfl⟩
theorem cw_X5_test_X5_checkArgument_53_th {p : Program} {s : State} {m : MethodId} {args : Array Value} {meth : Method} {c : Code} {D : va_G} {tys : List (ClassId × FieldType)} {R : Room} {kc : Nat} {q : Nat} (C : XC p R s m args meth c cX5_test 4 (some .int) RX5 wsX5_test D tys) : CallB (rm_X5_test kc) s args RX5 53 yX5_checkArgument cX5_checkArgument 3 none wsX5_checkArgument (rm_X5_checkArgument (q + 1)) 1 6 3 ∧ (Cond.static yX5_checkArgument).before args s = true := va_cwS 3 C.2.2.2.2.1 gX5_test_X5_checkArgument rfl rfl rfl (by decide +kernel) ⟨Nat.le_of_ble_eq_true rfl, Nat.le_of_ble_eq_true rfl⟩
theorem cw_X5_test_X5_checkRoomForFilter_159 {p : Program} {s : State} {m : MethodId} {args : Array Value} {meth : Method} {c : Code} {D : va_G} {tys : List (ClassId × FieldType)} {R : Room} {kc : Nat} (C : XC p R s m args meth c cX5_test 4 (some .int) RX5 wsX5_test D tys) : CallW (rm_X5_test kc) s args RX5 RX5 159 yX5_checkRoomForFilter cX5_checkRoomForFilter 1 none wsX5_checkRoomForFilter (rm_X5_checkRoomForFilter 0) 0 0 0 := cwV 0 C.2.2.2.2.1 gX5_test_X5_checkRoomForFilter rfl rfl rfl (by decide +kernel) ⟨Nat.le_of_ble_eq_true rfl, Nat.le_of_ble_eq_true rfl⟩
theorem cw_X5_test_X5_checkRoomForFilter_159_th {p : Program} {s : State} {m : MethodId} {args : Array Value} {meth : Method} {c : Code} {D : va_G} {tys : List (ClassId × FieldType)} {R : Room} {kc : Nat} {q : Nat} (C : XC p R s m args meth c cX5_test 4 (some .int) RX5 wsX5_test D tys) : CallW (rm_X5_test kc) s args RX5 RX5 159 yX5_checkRoomForFilter cX5_checkRoomForFilter 1 none wsX5_checkRoomForFilter (rm_X5_checkRoomForFilter (q + 1)) 1 6 0 := cwV 0 C.2.2.2.2.1 gX5_test_X5_checkRoomForFilter rfl rfl rfl (by decide +kernel) ⟨Nat.le_of_ble_eq_true rfl, Nat.le_of_ble_eq_true rfl⟩
def X5_test_b33 (S : St) (s0 : Int32) : Option (Nat × Int32 × St) :=
  some (0, s0, S)
set_option maxHeartbeats 4000000 in
set_option maxRecDepth 100000 in
theorem X_X5_test_b33 {p : Program} {l : Launch} {e : Env} {s : State} {m : MethodId} {args : Array Value} {below : List Frame} {meth : Method} {c : Code} {D : va_G} {cI cZ cJ : ClassId} {ad : Nat → Nat} {rest w0 : va_W} {x y : Nat} {z : Nat × Int32 × St} (C : XC p (rm_X5_test z.1) s m args meth c cX5_test 4 (some .int) RX5 wsX5_test D (t3 cI cZ cJ)) (T : z.1 ≠ 0 → XT l s c w0) {S : St} {s0 : Int32} (h : X5_test_b33 S s0 = some z) : XW p l e (rm_X5_test z.1) s m args below meth c D w0 4 (QZ z.1 (MQ below (QI D (t3 cI cZ cJ) w0 (wE cI cZ ad z.2.2 (eo ad x y rest)) s.heap.size z.2.1) args s 0 0 (va_A w0 s.heap.size)) (fun q9 => vx_MQ below nQ (XX D (t3 cI cZ cJ) w0 (wE cI cZ ad z.2.2 (eo ad x y rest)) s.heap.size (exN q9)) args s 1 6 (va_A w0 s.heap.size))) (wE cI cZ ad S (eo ad x y rest)) 0 0 33 [] [.int s0] := by
  unfold X5_test_b33 at h
  obtain rfl := Option.some.inj h
  exact x_iret C (v := s0) dX5_test_33
def X5_test (S : St) (x1 x2 x3 : Int32) : Option (Nat × Int32 × St) :=
  (X5_checkArgument x1 0 2).bind fun q3 => if q3 = 0 then ((X5_checkArgument x2 0 3).bind fun q9 => if q9 = 0 then ((X5_checkArgument x3 0 9).bind fun q16 => if q16 = 0 then ((X5_checkRoomForFilter S).bind fun q20 => if q20 = 0 then ((X1_append S x1 x2 x3).bind fun q30 => X5_test_b33 q30.2 q30.1) else some (q20, 0, S)) else some (q16, 0, S)) else some (q9, 0, S)) else some (q3, 0, S)
set_option maxHeartbeats 4000000 in
set_option maxRecDepth 100000 in
theorem X_X5_test {p : Program} {l : Launch} {e : Env} {s : State} {m : MethodId} {args : Array Value} {below : List Frame} {meth : Method} {c : Code} {D : va_G} {cI cZ cJ : ClassId} {ad : Nat → Nat} {rest w0 : va_W} {x y : Nat} {z : Nat × Int32 × St} (C : XC p (rm_X5_test z.1) s m args meth c cX5_test 4 (some .int) RX5 wsX5_test D (t3 cI cZ cJ)) (T : z.1 ≠ 0 → XT l s c w0) {S : St} {x1 x2 x3 : Int32} (h : X5_test S x1 x2 x3 = some z) : XW p l e (rm_X5_test z.1) s m args below meth c D w0 4 (QZ z.1 (MQ below (QI D (t3 cI cZ cJ) w0 (wE cI cZ ad z.2.2 (eo ad x y rest)) s.heap.size z.2.1) args s 0 0 (va_A w0 s.heap.size)) (fun q9 => vx_MQ below nQ (XX D (t3 cI cZ cJ) w0 (wE cI cZ ad z.2.2 (eo ad x y rest)) s.heap.size (exN q9)) args s 1 6 (va_A w0 s.heap.size))) (wE cI cZ ad S (eo ad x y rest)) 0 0 0 [(0, .ref (ad 32)), (1, .int x1), (2, .int x2), (3, .int x3)] [] := by
  unfold X5_test at h
  refine x_iload_n C 1 dX5_test_0 rfl ?_
  refine x_iconst C (v := 0) dX5_test_1 (by decide) ?_
  refine x_iconst C (v := 2) dX5_test_2 (by decide) ?_
  obtain ⟨q3, hg3, h⟩ := ob h
  cases q3 with
  | zero =>
    replace h := (if_pos (c := (0 : Nat) = 0) rfl).symm.trans h
    refine x_cv0 (x_runS C (As := [.int x1, .int 0, .int 2]) (rest := []) (c_X5_checkArgument_ok hg3) (cw_X5_test_X5_checkArgument_53 C) rfl (Nat.le_of_ble_eq_true rfl) dX5_test_3 ⟨Nat.zero_le _, Nat.zero_le _⟩) ?_
    refine x_iload_n C 2 dX5_test_6 rfl ?_
    refine x_iconst C (v := 0) dX5_test_7 (by decide) ?_
    refine x_iconst C (v := 3) dX5_test_8 (by decide) ?_
    obtain ⟨q9, hg9, h⟩ := ob h
    cases q9 with
    | zero =>
      replace h := (if_pos (c := (0 : Nat) = 0) rfl).symm.trans h
      refine x_cv0 (x_runS C (As := [.int x2, .int 0, .int 3]) (rest := []) (c_X5_checkArgument_ok hg9) (cw_X5_test_X5_checkArgument_53 C) rfl (Nat.le_of_ble_eq_true rfl) dX5_test_9 ⟨Nat.zero_le _, Nat.zero_le _⟩) ?_
      refine x_iload_n C 3 dX5_test_12 rfl ?_
      refine x_iconst C (v := 0) dX5_test_13 (by decide) ?_
      refine x_bipush C (v := 9) dX5_test_14 (by decide) ?_
      obtain ⟨q16, hg16, h⟩ := ob h
      cases q16 with
      | zero =>
        replace h := (if_pos (c := (0 : Nat) = 0) rfl).symm.trans h
        refine x_cv0 (x_runS C (As := [.int x3, .int 0, .int 9]) (rest := []) (c_X5_checkArgument_ok hg16) (cw_X5_test_X5_checkArgument_53 C) rfl (Nat.le_of_ble_eq_true rfl) dX5_test_16 ⟨Nat.zero_le _, Nat.zero_le _⟩) ?_
        refine x_aload_n C 0 dX5_test_19 rfl ?_
        obtain ⟨q20, hg20, h⟩ := ob h
        cases q20 with
        | zero =>
          replace h := (if_pos (c := (0 : Nat) = 0) rfl).symm.trans h
          refine x_cv0 (x_runV C (As := []) (rest := []) (c_X5_checkRoomForFilter_ok hg20) (cw_X5_test_X5_checkRoomForFilter_159 C) 32 rfl rfl rfl (Nat.le_of_ble_eq_true rfl) dX5_test_20 ⟨Nat.zero_le _, Nat.zero_le _⟩) ?_
          refine x_aload_n C 0 dX5_test_23 rfl ?_
          refine x_get C (R' := RX5) (T := TX5) (N := 6) (ci := 5) 32 5 rfl rfl (by decide) rfl rfl hi_X5_test_5 lk_X5_test_45 dX5_test_24 ?_
          refine x_iload_n C 1 dX5_test_27 rfl ?_
          refine x_iload_n C 2 dX5_test_28 rfl ?_
          refine x_iload_n C 3 dX5_test_29 rfl ?_
          obtain ⟨⟨v30, S30⟩, hg30, h⟩ := ob h
          refine x_ci0 (x_runV C (As := [.int x1, .int x2, .int x3]) (rest := []) (c_X1_append hg30) (cw_X5_test_X1_append_162 C) 27 rfl rfl rfl (Nat.le_of_ble_eq_true rfl) dX5_test_30 ⟨Nat.zero_le _, Nat.zero_le _⟩) ?_
          refine x_locals (lv' := []) [] rfl ?_
          exact X_X5_test_b33 C T h
        | succ q20 =>
          replace h := (if_neg (Nat.succ_ne_zero q20)).symm.trans h
          obtain rfl := Option.some.inj h
          exact x_cx C (T (Nat.succ_ne_zero _)) (x_runVX C (T (Nat.succ_ne_zero _)).2.2 (As := []) (rest := []) (c_X5_checkRoomForFilter_th (T (Nat.succ_ne_zero _)).1 hg20) (cw_X5_test_X5_checkRoomForFilter_159_th C) 32 rfl rfl rfl (Nat.le_of_ble_eq_true rfl) dX5_test_20 ⟨Nat.le_refl _, Nat.le_refl _⟩)
      | succ q16 =>
        replace h := (if_neg (Nat.succ_ne_zero q16)).symm.trans h
        obtain rfl := Option.some.inj h
        exact x_cx C (T (Nat.succ_ne_zero _)) (x_runSX C (T (Nat.succ_ne_zero _)).2.2 (As := [.int x3, .int 0, .int 9]) (rest := []) (c_X5_checkArgument_th (T (Nat.succ_ne_zero _)).1 hg16) (cw_X5_test_X5_checkArgument_53_th C) rfl (Nat.le_of_ble_eq_true rfl) dX5_test_16 ⟨Nat.le_refl _, Nat.le_refl _⟩)
    | succ q9 =>
      replace h := (if_neg (Nat.succ_ne_zero q9)).symm.trans h
      obtain rfl := Option.some.inj h
      exact x_cx C (T (Nat.succ_ne_zero _)) (x_runSX C (T (Nat.succ_ne_zero _)).2.2 (As := [.int x2, .int 0, .int 3]) (rest := []) (c_X5_checkArgument_th (T (Nat.succ_ne_zero _)).1 hg9) (cw_X5_test_X5_checkArgument_53_th C) rfl (Nat.le_of_ble_eq_true rfl) dX5_test_9 ⟨Nat.le_refl _, Nat.le_refl _⟩)
  | succ q3 =>
    replace h := (if_neg (Nat.succ_ne_zero q3)).symm.trans h
    obtain rfl := Option.some.inj h
    exact x_cx C (T (Nat.succ_ne_zero _)) (x_runSX C (T (Nat.succ_ne_zero _)).2.2 (As := [.int x1, .int 0, .int 2]) (rest := []) (c_X5_checkArgument_th (T (Nat.succ_ne_zero _)).1 hg3) (cw_X5_test_X5_checkArgument_53_th C) rfl (Nat.le_of_ble_eq_true rfl) dX5_test_3 ⟨Nat.le_refl _, Nat.le_refl _⟩)
set_option maxRecDepth 100000 in
theorem c_X5_test_ok {l : Launch} {D : va_G} {cI cZ cJ : ClassId} {ad : Nat → Nat} {S : St} {rest : va_W} {x y : Nat} {x1 x2 x3 : Int32} {v : Int32} {S' : St} (h : X5_test S x1 x2 x3 = some (0, v, S')) : ∀ sz, Met l yX5_test wsX5_test (rm_X5_test 0) (PC D (t3 cI cZ cJ) [.ref (ad 32), .int x1, .int x2, .int x3] (wE cI cZ ad S (eo ad x y rest)) sz) (QI D (t3 cI cZ cJ) (wE cI cZ ad S (eo ad x y rest)) (wE cI cZ ad S' (eo ad x y rest)) sz v) 0 0 (va_A (wE cI cZ ad S (eo ad x y rest)) sz) := by
  refine x_met (Qc := fun sz => QI D (t3 cI cZ cJ) (wE cI cZ ad S (eo ad x y rest)) (wE cI cZ ad S' (eo ad x y rest)) sz v) RX5 rfl (by decide) rfl (Nat.le_of_ble_eq_true rfl) (fun p e s m args below meth c C => ?_)
  exact X_X5_test (z := (0, v, S')) C (fun h9 => (h9 rfl).elim) h
set_option maxRecDepth 100000 in
theorem c_X5_test_th {l : Launch} {D : va_G} {cI cZ cJ : ClassId} {ad : Nat → Nat} {S : St} {rest : va_W} {x y : Nat} {x1 x2 x3 : Int32} {v : Int32} {S' : St} {q : Nat} (hfl : l.stackTraces = false) (h : X5_test S x1 x2 x3 = some ((q + 1), v, S')) : ∀ sz, vx_Met l yX5_test wsX5_test (rm_X5_test (q + 1)) (PX D (t3 cI cZ cJ) [.ref (ad 32), .int x1, .int x2, .int x3] (wE cI cZ ad S (eo ad x y rest)) sz) nQ (XX D (t3 cI cZ cJ) (wE cI cZ ad S (eo ad x y rest)) (wE cI cZ ad S' (eo ad x y rest)) sz (exN q)) 1 6 (va_A (wE cI cZ ad S (eo ad x y rest)) sz) := by
  refine x_metX hfl (XCf := fun sz => XX D (t3 cI cZ cJ) (wE cI cZ ad S (eo ad x y rest)) (wE cI cZ ad S' (eo ad x y rest)) sz (exN q)) RX5 rfl (by decide) rfl (Nat.le_of_ble_eq_true rfl) (fun p e s m args below meth c C T => ?_)
  exact X_X5_test (z := (q + 1, v, S')) C (fun _ => T) h
/-! EntryMasters.join(III)I -/
abbrev rm_X5_join (kc : Nat) : Room := rmf 7 104 kc
theorem hi_X5_join_1 : ∀ z ∈ u_ws RX1 TX1 5, z ∈ wsX5_join := by decide +kernel
theorem hi_X5_join_5 : ∀ z ∈ u_ws RX5 TX5 6, z ∈ wsX5_join := by decide +kernel
theorem lk_X5_join_45 : Cond.fieldLink RX5 45 RX5 "filters" "LEntryMasters$Filters;" ∈ wsX5_join := by decide +kernel
theorem cw_X5_join_X1_append_162 {p : Program} {s : State} {m : MethodId} {args : Array Value} {meth : Method} {c : Code} {D : va_G} {tys : List (ClassId × FieldType)} {R : Room} {kc : Nat} (C : XC p R s m args meth c cX5_join 4 (some .int) RX5 wsX5_join D tys) : CallW (rm_X5_join kc) s args RX5 RX1 162 yX1_append cX1_append 5 (some .int) wsX1_append rm_X1_append 0 0 3 := cwV 3 C.2.2.2.2.1 gX5_join_X1_append rfl rfl rfl (by decide +kernel) ⟨Nat.le_of_ble_eq_true rfl, Nat.le_of_ble_eq_true rfl⟩
theorem cw_X5_join_X5_checkArgument_53 {p : Program} {s : State} {m : MethodId} {args : Array Value} {meth : Method} {c : Code} {D : va_G} {tys : List (ClassId × FieldType)} {R : Room} {kc : Nat} (C : XC p R s m args meth c cX5_join 4 (some .int) RX5 wsX5_join D tys) : CallB (rm_X5_join kc) s args RX5 53 yX5_checkArgument cX5_checkArgument 3 none wsX5_checkArgument (rm_X5_checkArgument 0) 0 0 3 ∧ (Cond.static yX5_checkArgument).before args s = true := va_cwS 3 C.2.2.2.2.1 gX5_join_X5_checkArgument rfl rfl rfl (by decide +kernel) ⟨Nat.le_of_ble_eq_true rfl, Nat.le_of_ble_eq_true rfl⟩
theorem cw_X5_join_X5_checkArgument_53_th {p : Program} {s : State} {m : MethodId} {args : Array Value} {meth : Method} {c : Code} {D : va_G} {tys : List (ClassId × FieldType)} {R : Room} {kc : Nat} {q : Nat} (C : XC p R s m args meth c cX5_join 4 (some .int) RX5 wsX5_join D tys) : CallB (rm_X5_join kc) s args RX5 53 yX5_checkArgument cX5_checkArgument 3 none wsX5_checkArgument (rm_X5_checkArgument (q + 1)) 1 6 3 ∧ (Cond.static yX5_checkArgument).before args s = true := va_cwS 3 C.2.2.2.2.1 gX5_join_X5_checkArgument rfl rfl rfl (by decide +kernel) ⟨Nat.le_of_ble_eq_true rfl, Nat.le_of_ble_eq_true rfl⟩
theorem cw_X5_join_X5_checkIndex_49 {p : Program} {s : State} {m : MethodId} {args : Array Value} {meth : Method} {c : Code} {D : va_G} {tys : List (ClassId × FieldType)} {R : Room} {kc : Nat} (C : XC p R s m args meth c cX5_join 4 (some .int) RX5 wsX5_join D tys) : CallB (rm_X5_join kc) s args RX5 49 yX5_checkIndex cX5_checkIndex 2 none wsX5_checkIndex (rm_X5_checkIndex 0) 0 0 2 ∧ (Cond.static yX5_checkIndex).before args s = true := va_cwS 2 C.2.2.2.2.1 gX5_join_X5_checkIndex rfl rfl rfl (by decide +kernel) ⟨Nat.le_of_ble_eq_true rfl, Nat.le_of_ble_eq_true rfl⟩
theorem cw_X5_join_X5_checkIndex_49_th {p : Program} {s : State} {m : MethodId} {args : Array Value} {meth : Method} {c : Code} {D : va_G} {tys : List (ClassId × FieldType)} {R : Room} {kc : Nat} {q : Nat} (C : XC p R s m args meth c cX5_join 4 (some .int) RX5 wsX5_join D tys) : CallB (rm_X5_join kc) s args RX5 49 yX5_checkIndex cX5_checkIndex 2 none wsX5_checkIndex (rm_X5_checkIndex (q + 1)) 1 6 2 ∧ (Cond.static yX5_checkIndex).before args s = true := va_cwS 2 C.2.2.2.2.1 gX5_join_X5_checkIndex rfl rfl rfl (by decide +kernel) ⟨Nat.le_of_ble_eq_true rfl, Nat.le_of_ble_eq_true rfl⟩
theorem cw_X5_join_X5_checkRoomForFilter_159 {p : Program} {s : State} {m : MethodId} {args : Array Value} {meth : Method} {c : Code} {D : va_G} {tys : List (ClassId × FieldType)} {R : Room} {kc : Nat} (C : XC p R s m args meth c cX5_join 4 (some .int) RX5 wsX5_join D tys) : CallW (rm_X5_join kc) s args RX5 RX5 159 yX5_checkRoomForFilter cX5_checkRoomForFilter 1 none wsX5_checkRoomForFilter (rm_X5_checkRoomForFilter 0) 0 0 0 := cwV 0 C.2.2.2.2.1 gX5_join_X5_checkRoomForFilter rfl rfl rfl (by decide +kernel) ⟨Nat.le_of_ble_eq_true rfl, Nat.le_of_ble_eq_true rfl⟩
theorem cw_X5_join_X5_checkRoomForFilter_159_th {p : Program} {s : State} {m : MethodId} {args : Array Value} {meth : Method} {c : Code} {D : va_G} {tys : List (ClassId × FieldType)} {R : Room} {kc : Nat} {q : Nat} (C : XC p R s m args meth c cX5_join 4 (some .int) RX5 wsX5_join D tys) : CallW (rm_X5_join kc) s args RX5 RX5 159 yX5_checkRoomForFilter cX5_checkRoomForFilter 1 none wsX5_checkRoomForFilter (rm_X5_checkRoomForFilter (q + 1)) 1 6 0 := cwV 0 C.2.2.2.2.1 gX5_join_X5_checkRoomForFilter rfl rfl rfl (by decide +kernel) ⟨Nat.le_of_ble_eq_true rfl, Nat.le_of_ble_eq_true rfl⟩
def X5_join_b44 (S : St) (s0 : Int32) : Option (Nat × Int32 × St) :=
  some (0, s0, S)
set_option maxHeartbeats 4000000 in
set_option maxRecDepth 100000 in
theorem X_X5_join_b44 {p : Program} {l : Launch} {e : Env} {s : State} {m : MethodId} {args : Array Value} {below : List Frame} {meth : Method} {c : Code} {D : va_G} {cI cZ cJ : ClassId} {ad : Nat → Nat} {rest w0 : va_W} {x y : Nat} {z : Nat × Int32 × St} (C : XC p (rm_X5_join z.1) s m args meth c cX5_join 4 (some .int) RX5 wsX5_join D (t3 cI cZ cJ)) (T : z.1 ≠ 0 → XT l s c w0) {S : St} {s0 : Int32} (h : X5_join_b44 S s0 = some z) : XW p l e (rm_X5_join z.1) s m args below meth c D w0 4 (QZ z.1 (MQ below (QI D (t3 cI cZ cJ) w0 (wE cI cZ ad z.2.2 (eo ad x y rest)) s.heap.size z.2.1) args s 0 0 (va_A w0 s.heap.size)) (fun q9 => vx_MQ below nQ (XX D (t3 cI cZ cJ) w0 (wE cI cZ ad z.2.2 (eo ad x y rest)) s.heap.size (exN q9)) args s 1 6 (va_A w0 s.heap.size))) (wE cI cZ ad S (eo ad x y rest)) 0 0 44 [] [.int s0] := by
  unfold X5_join_b44 at h
  obtain rfl := Option.some.inj h
  exact x_iret C (v := s0) dX5_join_44
def X5_join (S : St) (x1 x2 x3 : Int32) : Option (Nat × Int32 × St) :=
  (X5_checkIndex x2 (S 27 4)).bind fun q8 => if q8 = 0 then ((X5_checkIndex x3 (S 27 4)).bind fun q19 => if q19 = 0 then ((X5_checkArgument x1 0 2).bind fun q25 => if q25 = 0 then ((X5_checkRoomForFilter S).bind fun q29 => if q29 = 0 then ((X1_append S (3 + x1) x2 x3).bind fun q41 => X5_join_b44 q41.2 q41.1) else some (q29, 0, S)) else some (q25, 0, S)) else some (q19, 0, S)) else some (q8, 0, S)
set_option maxHeartbeats 4000000 in
set_option maxRecDepth 100000 in
theorem X_X5_join {p : Program} {l : Launch} {e : Env} {s : State} {m : MethodId} {args : Array Value} {below : List Frame} {meth : Method} {c : Code} {D : va_G} {cI cZ cJ : ClassId} {ad : Nat → Nat} {rest w0 : va_W} {x y : Nat} {z : Nat × Int32 × St} (C : XC p (rm_X5_join z.1) s m args meth c cX5_join 4 (some .int) RX5 wsX5_join D (t3 cI cZ cJ)) (T : z.1 ≠ 0 → XT l s c w0) {S : St} {x1 x2 x3 : Int32} (h : X5_join S x1 x2 x3 = some z) : XW p l e (rm_X5_join z.1) s m args below meth c D w0 4 (QZ z.1 (MQ below (QI D (t3 cI cZ cJ) w0 (wE cI cZ ad z.2.2 (eo ad x y rest)) s.heap.size z.2.1) args s 0 0 (va_A w0 s.heap.size)) (fun q9 => vx_MQ below nQ (XX D (t3 cI cZ cJ) w0 (wE cI cZ ad z.2.2 (eo ad x y rest)) s.heap.size (exN q9)) args s 1 6 (va_A w0 s.heap.size))) (wE cI cZ ad S (eo ad x y rest)) 0 0 0 [(0, .ref (ad 32)), (1, .int x1), (2, .int x2), (3, .int x3)] [] := by
  unfold X5_join at h
  refine x_iload_n C 2 dX5_join_0 rfl ?_
  refine x_aload_n C 0 dX5_join_1 rfl ?_
  refine x_get C (R' := RX5) (T := TX5) (N := 6) (ci := 5) 32 5 rfl rfl (by decide) rfl rfl hi_X5_join_5 lk_X5_join_45 dX5_join_2 ?_
  refine x_getN C (R' := RX1) (T := TX1) (N := 5) (ci := 1) 27 4 rfl rfl (by decide) rfl rfl hi_X5_join_1 (nf_mem 1 rfl) dX5_join_5 ?_
  obtain ⟨q8, hg8, h⟩ := ob h
  cases q8 with
  | zero =>
    replace h := (if_pos (c := (0 : Nat) = 0) rfl).symm.trans h
    refine x_cv0 (x_runS C (As := [.int x2, .int (S 27 4)]) (rest := []) (c_X5_checkIndex_ok hg8) (cw_X5_join_X5_checkIndex_49 C) rfl (Nat.le_of_ble_eq_true rfl) dX5_join_8 ⟨Nat.zero_le _, Nat.zero_le _⟩) ?_
    refine x_iload_n C 3 dX5_join_11 rfl ?_
    refine x_aload_n C 0 dX5_join_12 rfl ?_
    refine x_get C (R' := RX5) (T := TX5) (N := 6) (ci := 5) 32 5 rfl rfl (by decide) rfl rfl hi_X5_join_5 lk_X5_join_45 dX5_join_13 ?_
    refine x_getN C (R' := RX1) (T := TX1) (N := 5) (ci := 1) 27 4 rfl rfl (by decide) rfl rfl hi_X5_join_1 (nf_mem 1 rfl) dX5_join_16 ?_
    obtain ⟨q19, hg19, h⟩ := ob h
    cases q19 with
    | zero =>
      replace h := (if_pos (c := (0 : Nat) = 0) rfl).symm.trans h
      refine x_cv0 (x_runS C (As := [.int x3, .int (S 27 4)]) (rest := []) (c_X5_checkIndex_ok hg19) (cw_X5_join_X5_checkIndex_49 C) rfl (Nat.le_of_ble_eq_true rfl) dX5_join_19 ⟨Nat.zero_le _, Nat.zero_le _⟩) ?_
      refine x_iload_n C 1 dX5_join_22 rfl ?_
      refine x_iconst C (v := 0) dX5_join_23 (by decide) ?_
      refine x_iconst C (v := 2) dX5_join_24 (by decide) ?_
      obtain ⟨q25, hg25, h⟩ := ob h
      cases q25 with
      | zero =>
        replace h := (if_pos (c := (0 : Nat) = 0) rfl).symm.trans h
        refine x_cv0 (x_runS C (As := [.int x1, .int 0, .int 2]) (rest := []) (c_X5_checkArgument_ok hg25) (cw_X5_join_X5_checkArgument_53 C) rfl (Nat.le_of_ble_eq_true rfl) dX5_join_25 ⟨Nat.zero_le _, Nat.zero_le _⟩) ?_
        refine x_aload_n C 0 dX5_join_28 rfl ?_
        obtain ⟨q29, hg29, h⟩ := ob h
        cases q29 with
        | zero =>
          replace h := (if_pos (c := (0 : Nat) = 0) rfl).symm.trans h
          refine x_cv0 (x_runV C (As := []) (rest := []) (c_X5_checkRoomForFilter_ok hg29) (cw_X5_join_X5_checkRoomForFilter_159 C) 32 rfl rfl rfl (Nat.le_of_ble_eq_true rfl) dX5_join_29 ⟨Nat.zero_le _, Nat.zero_le _⟩) ?_
          refine x_aload_n C 0 dX5_join_32 rfl ?_
          refine x_get C (R' := RX5) (T := TX5) (N := 6) (ci := 5) 32 5 rfl rfl (by decide) rfl rfl hi_X5_join_5 lk_X5_join_45 dX5_join_33 ?_
          refine x_iconst C (v := 3) dX5_join_36 (by decide) ?_
          refine x_iload_n C 1 dX5_join_37 rfl ?_
          refine x_iadd C dX5_join_38 ?_
          refine x_iload_n C 2 dX5_join_39 rfl ?_
          refine x_iload_n C 3 dX5_join_40 rfl ?_
          obtain ⟨⟨v41, S41⟩, hg41, h⟩ := ob h
          refine x_ci0 (x_runV C (As := [.int (3 + x1), .int x2, .int x3]) (rest := []) (c_X1_append hg41) (cw_X5_join_X1_append_162 C) 27 rfl rfl rfl (Nat.le_of_ble_eq_true rfl) dX5_join_41 ⟨Nat.zero_le _, Nat.zero_le _⟩) ?_
          refine x_locals (lv' := []) [] rfl ?_
          exact X_X5_join_b44 C T h
        | succ q29 =>
          replace h := (if_neg (Nat.succ_ne_zero q29)).symm.trans h
          obtain rfl := Option.some.inj h
          exact x_cx C (T (Nat.succ_ne_zero _)) (x_runVX C (T (Nat.succ_ne_zero _)).2.2 (As := []) (rest := []) (c_X5_checkRoomForFilter_th (T (Nat.succ_ne_zero _)).1 hg29) (cw_X5_join_X5_checkRoomForFilter_159_th C) 32 rfl rfl rfl (Nat.le_of_ble_eq_true rfl) dX5_join_29 ⟨Nat.le_refl _, Nat.le_refl _⟩)
      | succ q25 =>
        replace h := (if_neg (Nat.succ_ne_zero q25)).symm.trans h
        obtain rfl := Option.some.inj h
        exact x_cx C (T (Nat.succ_ne_zero _)) (x_runSX C (T (Nat.succ_ne_zero _)).2.2 (As := [.int x1, .int 0, .int 2]) (rest := []) (c_X5_checkArgument_th (T (Nat.succ_ne_zero _)).1 hg25) (cw_X5_join_X5_checkArgument_53_th C) rfl (Nat.le_of_ble_eq_true rfl) dX5_join_25 ⟨Nat.le_refl _, Nat.le_refl _⟩)
    | succ q19 =>
      replace h := (if_neg (Nat.succ_ne_zero q19)).symm.trans h
      obtain rfl := Option.some.inj h
      exact x_cx C (T (Nat.succ_ne_zero _)) (x_runSX C (T (Nat.succ_ne_zero _)).2.2 (As := [.int x3, .int (S 27 4)]) (rest := []) (c_X5_checkIndex_th (T (Nat.succ_ne_zero _)).1 hg19) (cw_X5_join_X5_checkIndex_49_th C) rfl (Nat.le_of_ble_eq_true rfl) dX5_join_19 ⟨Nat.le_refl _, Nat.le_refl _⟩)
  | succ q8 =>
    replace h := (if_neg (Nat.succ_ne_zero q8)).symm.trans h
    obtain rfl := Option.some.inj h
    exact x_cx C (T (Nat.succ_ne_zero _)) (x_runSX C (T (Nat.succ_ne_zero _)).2.2 (As := [.int x2, .int (S 27 4)]) (rest := []) (c_X5_checkIndex_th (T (Nat.succ_ne_zero _)).1 hg8) (cw_X5_join_X5_checkIndex_49_th C) rfl (Nat.le_of_ble_eq_true rfl) dX5_join_8 ⟨Nat.le_refl _, Nat.le_refl _⟩)
set_option maxRecDepth 100000 in
theorem c_X5_join_ok {l : Launch} {D : va_G} {cI cZ cJ : ClassId} {ad : Nat → Nat} {S : St} {rest : va_W} {x y : Nat} {x1 x2 x3 : Int32} {v : Int32} {S' : St} (h : X5_join S x1 x2 x3 = some (0, v, S')) : ∀ sz, Met l yX5_join wsX5_join (rm_X5_join 0) (PC D (t3 cI cZ cJ) [.ref (ad 32), .int x1, .int x2, .int x3] (wE cI cZ ad S (eo ad x y rest)) sz) (QI D (t3 cI cZ cJ) (wE cI cZ ad S (eo ad x y rest)) (wE cI cZ ad S' (eo ad x y rest)) sz v) 0 0 (va_A (wE cI cZ ad S (eo ad x y rest)) sz) := by
  refine x_met (Qc := fun sz => QI D (t3 cI cZ cJ) (wE cI cZ ad S (eo ad x y rest)) (wE cI cZ ad S' (eo ad x y rest)) sz v) RX5 rfl (by decide) rfl (Nat.le_of_ble_eq_true rfl) (fun p e s m args below meth c C => ?_)
  exact X_X5_join (z := (0, v, S')) C (fun h9 => (h9 rfl).elim) h
set_option maxRecDepth 100000 in
theorem c_X5_join_th {l : Launch} {D : va_G} {cI cZ cJ : ClassId} {ad : Nat → Nat} {S : St} {rest : va_W} {x y : Nat} {x1 x2 x3 : Int32} {v : Int32} {S' : St} {q : Nat} (hfl : l.stackTraces = false) (h : X5_join S x1 x2 x3 = some ((q + 1), v, S')) : ∀ sz, vx_Met l yX5_join wsX5_join (rm_X5_join (q + 1)) (PX D (t3 cI cZ cJ) [.ref (ad 32), .int x1, .int x2, .int x3] (wE cI cZ ad S (eo ad x y rest)) sz) nQ (XX D (t3 cI cZ cJ) (wE cI cZ ad S (eo ad x y rest)) (wE cI cZ ad S' (eo ad x y rest)) sz (exN q)) 1 6 (va_A (wE cI cZ ad S (eo ad x y rest)) sz) := by
  refine x_metX hfl (XCf := fun sz => XX D (t3 cI cZ cJ) (wE cI cZ ad S (eo ad x y rest)) (wE cI cZ ad S' (eo ad x y rest)) sz (exN q)) RX5 rfl (by decide) rfl (Nat.le_of_ble_eq_true rfl) (fun p e s m args below meth c C T => ?_)
  exact X_X5_join (z := (q + 1, v, S')) C (fun _ => T) h
/-! EntryMasters.holds(III)I -/
abbrev rm_X5_holds (kc : Nat) : Room := rmf 8 124 kc
theorem hi_X5_holds_1 : ∀ z ∈ u_ws RX1 TX1 5, z ∈ wsX5_holds := by decide +kernel
theorem hi_X5_holds_5 : ∀ z ∈ u_ws RX5 TX5 6, z ∈ wsX5_holds := by decide +kernel
theorem lk_X5_holds_45 : Cond.fieldLink RX5 45 RX5 "filters" "LEntryMasters$Filters;" ∈ wsX5_holds := by decide +kernel
theorem cw_X5_holds_X1_truthFor_165 {p : Program} {s : State} {m : MethodId} {args : Array Value} {meth : Method} {c : Code} {D : va_G} {tys : List (ClassId × FieldType)} {R : Room} {kc : Nat} (C : XC p R s m args meth c cX5_holds 5 (some .int) RX5 wsX5_holds D tys) : CallW (rm_X5_holds kc) s args RX5 RX1 165 yX1_truthFor cX1_truthFor 8 (some .int) wsX1_truthFor rm_X1_truthFor 0 0 3 := cwV 3 C.2.2.2.2.1 gX5_holds_X1_truthFor rfl rfl rfl (by decide +kernel) ⟨Nat.le_of_ble_eq_true rfl, Nat.le_of_ble_eq_true rfl⟩
theorem cw_X5_holds_X5_checkEntry_75 {p : Program} {s : State} {m : MethodId} {args : Array Value} {meth : Method} {c : Code} {D : va_G} {tys : List (ClassId × FieldType)} {R : Room} {kc : Nat} (C : XC p R s m args meth c cX5_holds 5 (some .int) RX5 wsX5_holds D tys) : CallB (rm_X5_holds kc) s args RX5 75 yX5_checkEntry cX5_checkEntry 2 none wsX5_checkEntry (rm_X5_checkEntry 0) 0 0 2 ∧ (Cond.static yX5_checkEntry).before args s = true := va_cwS 2 C.2.2.2.2.1 gX5_holds_X5_checkEntry rfl rfl rfl (by decide +kernel) ⟨Nat.le_of_ble_eq_true rfl, Nat.le_of_ble_eq_true rfl⟩
theorem cw_X5_holds_X5_checkEntry_75_th {p : Program} {s : State} {m : MethodId} {args : Array Value} {meth : Method} {c : Code} {D : va_G} {tys : List (ClassId × FieldType)} {R : Room} {kc : Nat} {q : Nat} (C : XC p R s m args meth c cX5_holds 5 (some .int) RX5 wsX5_holds D tys) : CallB (rm_X5_holds kc) s args RX5 75 yX5_checkEntry cX5_checkEntry 2 none wsX5_checkEntry (rm_X5_checkEntry (q + 1)) 1 6 2 ∧ (Cond.static yX5_checkEntry).before args s = true := va_cwS 2 C.2.2.2.2.1 gX5_holds_X5_checkEntry rfl rfl rfl (by decide +kernel) ⟨Nat.le_of_ble_eq_true rfl, Nat.le_of_ble_eq_true rfl⟩
theorem cw_X5_holds_X5_checkIndex_49 {p : Program} {s : State} {m : MethodId} {args : Array Value} {meth : Method} {c : Code} {D : va_G} {tys : List (ClassId × FieldType)} {R : Room} {kc : Nat} (C : XC p R s m args meth c cX5_holds 5 (some .int) RX5 wsX5_holds D tys) : CallB (rm_X5_holds kc) s args RX5 49 yX5_checkIndex cX5_checkIndex 2 none wsX5_checkIndex (rm_X5_checkIndex 0) 0 0 2 ∧ (Cond.static yX5_checkIndex).before args s = true := va_cwS 2 C.2.2.2.2.1 gX5_holds_X5_checkIndex rfl rfl rfl (by decide +kernel) ⟨Nat.le_of_ble_eq_true rfl, Nat.le_of_ble_eq_true rfl⟩
theorem cw_X5_holds_X5_checkIndex_49_th {p : Program} {s : State} {m : MethodId} {args : Array Value} {meth : Method} {c : Code} {D : va_G} {tys : List (ClassId × FieldType)} {R : Room} {kc : Nat} {q : Nat} (C : XC p R s m args meth c cX5_holds 5 (some .int) RX5 wsX5_holds D tys) : CallB (rm_X5_holds kc) s args RX5 49 yX5_checkIndex cX5_checkIndex 2 none wsX5_checkIndex (rm_X5_checkIndex (q + 1)) 1 6 2 ∧ (Cond.static yX5_checkIndex).before args s = true := va_cwS 2 C.2.2.2.2.1 gX5_holds_X5_checkIndex rfl rfl rfl (by decide +kernel) ⟨Nat.le_of_ble_eq_true rfl, Nat.le_of_ble_eq_true rfl⟩
theorem cw_X5_holds_X5_treeOf_71 {p : Program} {s : State} {m : MethodId} {args : Array Value} {meth : Method} {c : Code} {D : va_G} {tys : List (ClassId × FieldType)} {R : Room} {kc : Nat} (C : XC p R s m args meth c cX5_holds 5 (some .int) RX5 wsX5_holds D tys) : CallW (rm_X5_holds kc) s args RX5 RX5 71 yX5_treeOf cX5_treeOf 2 (some (.object "EntryMasters$Tree")) wsX5_treeOf (rm_X5_treeOf 0) 0 0 1 := cwV 1 C.2.2.2.2.1 gX5_holds_X5_treeOf rfl rfl rfl (by decide +kernel) ⟨Nat.le_of_ble_eq_true rfl, Nat.le_of_ble_eq_true rfl⟩
theorem cw_X5_holds_X5_treeOf_71_th {p : Program} {s : State} {m : MethodId} {args : Array Value} {meth : Method} {c : Code} {D : va_G} {tys : List (ClassId × FieldType)} {R : Room} {kc : Nat} {q : Nat} (C : XC p R s m args meth c cX5_holds 5 (some .int) RX5 wsX5_holds D tys) : CallW (rm_X5_holds kc) s args RX5 RX5 71 yX5_treeOf cX5_treeOf 2 (some (.object "EntryMasters$Tree")) wsX5_treeOf (rm_X5_treeOf (q + 1)) 1 6 1 := cwV 1 C.2.2.2.2.1 gX5_holds_X5_treeOf rfl rfl rfl (by decide +kernel) ⟨Nat.le_of_ble_eq_true rfl, Nat.le_of_ble_eq_true rfl⟩
def X5_holds_b35 (S : St) (s0 : Int32) : Option (Nat × Int32 × St) :=
  some (0, s0, S)
set_option maxHeartbeats 4000000 in
set_option maxRecDepth 100000 in
theorem X_X5_holds_b35 {p : Program} {l : Launch} {e : Env} {s : State} {m : MethodId} {args : Array Value} {below : List Frame} {meth : Method} {c : Code} {D : va_G} {cI cZ cJ : ClassId} {ad : Nat → Nat} {rest w0 : va_W} {x y : Nat} {z : Nat × Int32 × St} (C : XC p (rm_X5_holds z.1) s m args meth c cX5_holds 5 (some .int) RX5 wsX5_holds D (t3 cI cZ cJ)) (T : z.1 ≠ 0 → XT l s c w0) {S : St} {s0 : Int32} (h : X5_holds_b35 S s0 = some z) : XW p l e (rm_X5_holds z.1) s m args below meth c D w0 5 (QZ z.1 (MQ below (QI D (t3 cI cZ cJ) w0 (wE cI cZ ad z.2.2 (eo ad x y rest)) s.heap.size z.2.1) args s 0 0 (va_A w0 s.heap.size)) (fun q9 => vx_MQ below nQ (XX D (t3 cI cZ cJ) w0 (wE cI cZ ad z.2.2 (eo ad x y rest)) s.heap.size (exN q9)) args s 1 6 (va_A w0 s.heap.size))) (wE cI cZ ad S (eo ad x y rest)) 0 0 35 [] [.int s0] := by
  unfold X5_holds_b35 at h
  obtain rfl := Option.some.inj h
  exact x_iret C (v := s0) dX5_holds_35
def X5_holds_b5 (S : St) (x2 x3 : Int32) : Option (Nat × Int32 × St) :=
  (X5_checkIndex x2 (S 27 4)).bind fun q15 => if q15 = 0 then ((X5_checkEntry S x3).bind fun q21 => if q21 = 0 then ((X1_truthFor S x2 x3).bind fun q32 => X5_holds_b35 q32.2 q32.1) else some (q21, 0, S)) else some (q15, 0, S)
set_option maxHeartbeats 4000000 in
set_option maxRecDepth 100000 in
theorem X_X5_holds_b5 {p : Program} {l : Launch} {e : Env} {s : State} {m : MethodId} {args : Array Value} {below : List Frame} {meth : Method} {c : Code} {D : va_G} {cI cZ cJ : ClassId} {ad : Nat → Nat} {rest w0 : va_W} {x y : Nat} {z : Nat × Int32 × St} (C : XC p (rm_X5_holds z.1) s m args meth c cX5_holds 5 (some .int) RX5 wsX5_holds D (t3 cI cZ cJ)) (T : z.1 ≠ 0 → XT l s c w0) {S : St} {x2 x3 : Int32} (h : X5_holds_b5 S x2 x3 = some z) : XW p l e (rm_X5_holds z.1) s m args below meth c D w0 5 (QZ z.1 (MQ below (QI D (t3 cI cZ cJ) w0 (wE cI cZ ad z.2.2 (eo ad x y rest)) s.heap.size z.2.1) args s 0 0 (va_A w0 s.heap.size)) (fun q9 => vx_MQ below nQ (XX D (t3 cI cZ cJ) w0 (wE cI cZ ad z.2.2 (eo ad x y rest)) s.heap.size (exN q9)) args s 1 6 (va_A w0 s.heap.size))) (wE cI cZ ad S (eo ad x y rest)) 0 0 5 [(0, .ref (ad 32)), (2, .int x2), (3, .int x3)] [.ref (ad 0)] := by
  unfold X5_holds_b5 at h
  refine x_astore C (lv' := [(0, .ref (ad 32)), (2, .int x2), (3, .int x3), (4, .ref (ad 0))]) dX5_holds_5 (by decide) rfl ?_
  refine x_iload_n C 1 dX5_holds_7 rfl ?_
  refine x_aload_n C 0 dX5_holds_8 rfl ?_
  refine x_get C (R' := RX5) (T := TX5) (N := 6) (ci := 5) 32 5 rfl rfl (by decide) rfl rfl hi_X5_holds_5 lk_X5_holds_45 dX5_holds_9 ?_
  refine x_getN C (R' := RX1) (T := TX1) (N := 5) (ci := 1) 27 4 rfl rfl (by decide) rfl rfl hi_X5_holds_1 (nf_mem 1 rfl) dX5_holds_12 ?_
  obtain ⟨q15, hg15, h⟩ := ob h
  cases q15 with
  | zero =>
    replace h := (if_pos (c := (0 : Nat) = 0) rfl).symm.trans h
    refine x_cv0 (x_runS C (As := [.int x2, .int (S 27 4)]) (rest := []) (c_X5_checkIndex_ok hg15) (cw_X5_holds_X5_checkIndex_49 C) rfl (Nat.le_of_ble_eq_true rfl) dX5_holds_15 ⟨Nat.zero_le _, Nat.zero_le _⟩) ?_
    refine x_aload C 3 dX5_holds_18 rfl ?_
    refine x_iload_n C 2 dX5_holds_20 rfl ?_
    obtain ⟨q21, hg21, h⟩ := ob h
    cases q21 with
    | zero =>
      replace h := (if_pos (c := (0 : Nat) = 0) rfl).symm.trans h
      refine x_cv0 (x_runS C (As := [.ref (ad 0), .int x3]) (rest := []) (c_X5_checkEntry_ok hg21) (cw_X5_holds_X5_checkEntry_75 C) rfl (Nat.le_of_ble_eq_true rfl) dX5_holds_21 ⟨Nat.zero_le _, Nat.zero_le _⟩) ?_
      refine x_aload_n C 0 dX5_holds_24 rfl ?_
      refine x_get C (R' := RX5) (T := TX5) (N := 6) (ci := 5) 32 5 rfl rfl (by decide) rfl rfl hi_X5_holds_5 lk_X5_holds_45 dX5_holds_25 ?_
      refine x_iload_n C 1 dX5_holds_28 rfl ?_
      refine x_aload C 3 dX5_holds_29 rfl ?_
      refine x_iload_n C 2 dX5_holds_31 rfl ?_
      obtain ⟨⟨v32, S32⟩, hg32, h⟩ := ob h
      refine x_ci0 (x_runV C (As := [.int x2, .ref (ad 0), .int x3]) (rest := []) (c_X1_truthFor hg32) (cw_X5_holds_X1_truthFor_165 C) 27 rfl rfl rfl (Nat.le_of_ble_eq_true rfl) dX5_holds_32 ⟨Nat.zero_le _, Nat.zero_le _⟩) ?_
      refine x_locals (lv' := []) [] rfl ?_
      exact X_X5_holds_b35 C T h
    | succ q21 =>
      replace h := (if_neg (Nat.succ_ne_zero q21)).symm.trans h
      obtain rfl := Option.some.inj h
      exact x_cx C (T (Nat.succ_ne_zero _)) (x_runSX C (T (Nat.succ_ne_zero _)).2.2 (As := [.ref (ad 0), .int x3]) (rest := []) (c_X5_checkEntry_th (T (Nat.succ_ne_zero _)).1 hg21) (cw_X5_holds_X5_checkEntry_75_th C) rfl (Nat.le_of_ble_eq_true rfl) dX5_holds_21 ⟨Nat.le_refl _, Nat.le_refl _⟩)
  | succ q15 =>
    replace h := (if_neg (Nat.succ_ne_zero q15)).symm.trans h
    obtain rfl := Option.some.inj h
    exact x_cx C (T (Nat.succ_ne_zero _)) (x_runSX C (T (Nat.succ_ne_zero _)).2.2 (As := [.int x2, .int (S 27 4)]) (rest := []) (c_X5_checkIndex_th (T (Nat.succ_ne_zero _)).1 hg15) (cw_X5_holds_X5_checkIndex_49_th C) rfl (Nat.le_of_ble_eq_true rfl) dX5_holds_15 ⟨Nat.le_refl _, Nat.le_refl _⟩)
def X5_holds (S : St) (x1 x2 x3 : Int32) : Option (Nat × Int32 × St) :=
  (X5_treeOf S x1).bind fun q2 => if q2.1 = 0 then (bif q2.2 then ((X5_holds_b5 (swS S) x2 x3).map unz) else (X5_holds_b5 S x2 x3)) else some (q2.1, 0, S)
set_option maxHeartbeats 4000000 in
set_option maxRecDepth 100000 in
theorem X_X5_holds {p : Program} {l : Launch} {e : Env} {s : State} {m : MethodId} {args : Array Value} {below : List Frame} {meth : Method} {c : Code} {D : va_G} {cI cZ cJ : ClassId} {ad : Nat → Nat} {rest w0 : va_W} {z : Nat × Int32 × St} (C : XC p (rm_X5_holds z.1) s m args meth c cX5_holds 5 (some .int) RX5 wsX5_holds D (t3 cI cZ cJ)) (T : z.1 ≠ 0 → XT l s c w0) {S : St} {x1 x2 x3 : Int32} (h : X5_holds S x1 x2 x3 = some z) : XW p l e (rm_X5_holds z.1) s m args below meth c D w0 5 (QZ z.1 (MQ below (QI D (t3 cI cZ cJ) w0 (wE cI cZ ad z.2.2 (eo ad (ad 0) (ad 7) rest)) s.heap.size z.2.1) args s 0 0 (va_A w0 s.heap.size)) (fun q9 => vx_MQ below nQ (XX D (t3 cI cZ cJ) w0 (wE cI cZ ad z.2.2 (eo ad (ad 0) (ad 7) rest)) s.heap.size (exN q9)) args s 1 6 (va_A w0 s.heap.size))) (wE cI cZ ad S (eo ad (ad 0) (ad 7) rest)) 0 0 0 [(0, .ref (ad 32)), (1, .int x1), (2, .int x2), (3, .int x3)] [] := by
  unfold X5_holds at h
  refine x_aload_n C 0 dX5_holds_0 rfl ?_
  refine x_iload_n C 1 dX5_holds_1 rfl ?_
  obtain ⟨⟨q2, b2⟩, hg2, h⟩ := ob h
  cases q2 with
  | zero =>
    replace h := (if_pos (c := (0 : Nat) = 0) rfl).symm.trans h
    refine x_cr0 (x_runV C (As := [.int x1]) (rest := []) (c_X5_treeOf_ok hg2) (cw_X5_holds_X5_treeOf_71 C) 32 rfl rfl rfl (Nat.le_of_ble_eq_true rfl) dX5_holds_2 ⟨Nat.zero_le _, Nat.zero_le _⟩) ?_
    refine x_locals (lv' := [(0, .ref (ad 32)), (2, .int x2), (3, .int x3)]) [0, 2, 3] rfl ?_
    cases b2 with
    | false => exact X_X5_holds_b5 (x := ad 0) (y := ad 7) C T h
    | true =>
      refine x_world (w' := wE cI cZ (swA ad) (swS S) (eo (swA ad) (ad 0) (ad 7) rest)) (wl_sw (D := D)).1 ((wl_sw (D := D)).2 _) ?_
      obtain ⟨z9, hz9, hz8⟩ := Option.map_eq_some_iff.mp h
      subst hz8
      exact x_mono (QZI.mono wl_unsw) (X_X5_holds_b5 (ad := swA ad) (x := ad 0) (y := ad 7) (z := z9) C T hz9)
  | succ q2 =>
    replace h := (if_neg (Nat.succ_ne_zero q2)).symm.trans h
    obtain rfl := Option.some.inj h
    exact x_cx C (T (Nat.succ_ne_zero _)) (x_runVX C (T (Nat.succ_ne_zero _)).2.2 (As := [.int x1]) (rest := []) (c_X5_treeOf_th (T (Nat.succ_ne_zero _)).1 hg2) (cw_X5_holds_X5_treeOf_71_th C) 32 rfl rfl rfl (Nat.le_of_ble_eq_true rfl) dX5_holds_2 ⟨Nat.le_refl _, Nat.le_refl _⟩)
set_option maxRecDepth 100000 in
theorem c_X5_holds_ok {l : Launch} {D : va_G} {cI cZ cJ : ClassId} {ad : Nat → Nat} {S : St} {rest : va_W} {x1 x2 x3 : Int32} {v : Int32} {S' : St} (h : X5_holds S x1 x2 x3 = some (0, v, S')) : ∀ sz, Met l yX5_holds wsX5_holds (rm_X5_holds 0) (PC D (t3 cI cZ cJ) [.ref (ad 32), .int x1, .int x2, .int x3] (wE cI cZ ad S (eo ad (ad 0) (ad 7) rest)) sz) (QI D (t3 cI cZ cJ) (wE cI cZ ad S (eo ad (ad 0) (ad 7) rest)) (wE cI cZ ad S' (eo ad (ad 0) (ad 7) rest)) sz v) 0 0 (va_A (wE cI cZ ad S (eo ad (ad 0) (ad 7) rest)) sz) := by
  refine x_met (Qc := fun sz => QI D (t3 cI cZ cJ) (wE cI cZ ad S (eo ad (ad 0) (ad 7) rest)) (wE cI cZ ad S' (eo ad (ad 0) (ad 7) rest)) sz v) RX5 rfl (by decide) rfl (Nat.le_of_ble_eq_true rfl) (fun p e s m args below meth c C => ?_)
  exact X_X5_holds (z := (0, v, S')) C (fun h9 => (h9 rfl).elim) h
set_option maxRecDepth 100000 in
theorem c_X5_holds_th {l : Launch} {D : va_G} {cI cZ cJ : ClassId} {ad : Nat → Nat} {S : St} {rest : va_W} {x1 x2 x3 : Int32} {v : Int32} {S' : St} {q : Nat} (hfl : l.stackTraces = false) (h : X5_holds S x1 x2 x3 = some ((q + 1), v, S')) : ∀ sz, vx_Met l yX5_holds wsX5_holds (rm_X5_holds (q + 1)) (PX D (t3 cI cZ cJ) [.ref (ad 32), .int x1, .int x2, .int x3] (wE cI cZ ad S (eo ad (ad 0) (ad 7) rest)) sz) nQ (XX D (t3 cI cZ cJ) (wE cI cZ ad S (eo ad (ad 0) (ad 7) rest)) (wE cI cZ ad S' (eo ad (ad 0) (ad 7) rest)) sz (exN q)) 1 6 (va_A (wE cI cZ ad S (eo ad (ad 0) (ad 7) rest)) sz) := by
  refine x_metX hfl (XCf := fun sz => XX D (t3 cI cZ cJ) (wE cI cZ ad S (eo ad (ad 0) (ad 7) rest)) (wE cI cZ ad S' (eo ad (ad 0) (ad 7) rest)) sz (exN q)) RX5 rfl (by decide) rfl (Nat.le_of_ble_eq_true rfl) (fun p e s m args below meth c C T => ?_)
  exact X_X5_holds (z := (q + 1, v, S')) C (fun _ => T) h
/-! EntryMasters.isFound(LEntryMasters$Tree;III)Z -/
abbrev rm_X5_isFound : Room := { frames := 5, cells := 0, slots := 0, locals := 117 }
theorem hi_X5_isFound_5 : ∀ z ∈ u_ws RX5 TX5 6, z ∈ wsX5_isFound := by decide +kernel
theorem lk_X5_isFound_38 : Cond.fieldLink RX5 38 RX5 "marks" "LEntryMasters$Marks;" ∈ wsX5_isFound := by decide +kernel
theorem lk_X5_isFound_45 : Cond.fieldLink RX5 45 RX5 "filters" "LEntryMasters$Filters;" ∈ wsX5_isFound := by decide +kernel
theorem cw_X5_isFound_X1_truthFor_165 {p : Program} {s : State} {m : MethodId} {args : Array Value} {meth : Method} {c : Code} {D : va_G} {tys : List (ClassId × FieldType)} {R : Room} (C : XC p R s m args meth c cX5_isFound 5 (some .boolean) RX5 wsX5_isFound D tys) : CallW rm_X5_isFound s args RX5 RX1 165 yX1_truthFor cX1_truthFor 8 (some .int) wsX1_truthFor rm_X1_truthFor 0 0 3 := cwV 3 C.2.2.2.2.1 gX5_isFound_X1_truthFor rfl rfl rfl (by decide +kernel) ⟨Nat.le_of_ble_eq_true rfl, Nat.le_of_ble_eq_true rfl⟩
theorem cw_X5_isFound_X3_rightThatCounts_186 {p : Program} {s : State} {m : MethodId} {args : Array Value} {meth : Method} {c : Code} {D : va_G} {tys : List (ClassId × FieldType)} {R : Room} (C : XC p R s m args meth c cX5_isFound 5 (some .boolean) RX5 wsX5_isFound D tys) : CallW rm_X5_isFound s args RX5 RX3 186 yX3_rightThatCounts cX3_rightThatCounts 7 (some .int) wsX3_rightThatCounts rm_X3_rightThatCounts 0 0 3 := cwV 3 C.2.2.2.2.1 gX5_isFound_X3_rightThatCounts rfl rfl rfl (by decide +kernel) ⟨Nat.le_of_ble_eq_true rfl, Nat.le_of_ble_eq_true rfl⟩
def X5_isFound_b34 (S : St) (s0 : Int32) : Option (Int32 × St) :=
  if s0 &&& 1 = s0 then (some (s0, S)) else none
set_option maxHeartbeats 4000000 in
set_option maxRecDepth 100000 in
theorem X_X5_isFound_b34 {p : Program} {l : Launch} {e : Env} {s : State} {m : MethodId} {args : Array Value} {below : List Frame} {meth : Method} {c : Code} {D : va_G} {cI cZ cJ : ClassId} {ad : Nat → Nat} {rest w0 : va_W} {x y : Nat} (C : XC p rm_X5_isFound s m args meth c cX5_isFound 5 (some .boolean) RX5 wsX5_isFound D (t3 cI cZ cJ)) {S : St} {s0 : Int32} {r : Int32 × St} (h : X5_isFound_b34 S s0 = some r) : XW p l e rm_X5_isFound s m args below meth c D w0 5 (MQ below (QI D (t3 cI cZ cJ) w0 (wE cI cZ ad r.2 (eo ad x y rest)) s.heap.size r.1) args s 0 0 (va_A w0 s.heap.size)) (wE cI cZ ad S (eo ad x y rest)) 0 0 34 [] [.int s0] := by
  unfold X5_isFound_b34 at h
  obtain ⟨g34, h⟩ := gd h
  obtain rfl := Option.some.inj h
  exact x_zret C g34 dX5_isFound_34
def X5_isFound_b33 (S : St) : Option (Int32 × St) :=
  X5_isFound_b34 S 0
set_option maxHeartbeats 4000000 in
set_option maxRecDepth 100000 in
theorem X_X5_isFound_b33 {p : Program} {l : Launch} {e : Env} {s : State} {m : MethodId} {args : Array Value} {below : List Frame} {meth : Method} {c : Code} {D : va_G} {cI cZ cJ : ClassId} {ad : Nat → Nat} {rest w0 : va_W} {x y : Nat} (C : XC p rm_X5_isFound s m args meth c cX5_isFound 5 (some .boolean) RX5 wsX5_isFound D (t3 cI cZ cJ)) {S : St} {r : Int32 × St} (h : X5_isFound_b33 S = some r) : XW p l e rm_X5_isFound s m args below meth c D w0 5 (MQ below (QI D (t3 cI cZ cJ) w0 (wE cI cZ ad r.2 (eo ad x y rest)) s.heap.size r.1) args s 0 0 (va_A w0 s.heap.size)) (wE cI cZ ad S (eo ad x y rest)) 0 0 33 [] [] := by
  unfold X5_isFound_b33 at h
  refine x_iconst C (v := 0) dX5_isFound_33 (by decide) ?_
  exact X_X5_isFound_b34 C h
def X5_isFound_b11 (S : St) (x2 x4 s0 : Int32) : Option (Int32 × St) :=
  if s0 = 1 then ((X3_rightThatCounts S x2 x4).bind fun v23 => if v23 = 0 then (X5_isFound_b34 S 1) else (X5_isFound_b33 S)) else (X5_isFound_b33 S)
set_option maxHeartbeats 4000000 in
set_option maxRecDepth 100000 in
theorem X_X5_isFound_b11 {p : Program} {l : Launch} {e : Env} {s : State} {m : MethodId} {args : Array Value} {below : List Frame} {meth : Method} {c : Code} {D : va_G} {cI cZ cJ : ClassId} {ad : Nat → Nat} {rest w0 : va_W} {x y : Nat} (C : XC p rm_X5_isFound s m args meth c cX5_isFound 5 (some .boolean) RX5 wsX5_isFound D (t3 cI cZ cJ)) {S : St} {x2 x4 s0 : Int32} {r : Int32 × St} (h : X5_isFound_b11 S x2 x4 s0 = some r) : XW p l e rm_X5_isFound s m args below meth c D w0 5 (MQ below (QI D (t3 cI cZ cJ) w0 (wE cI cZ ad r.2 (eo ad x y rest)) s.heap.size r.1) args s 0 0 (va_A w0 s.heap.size)) (wE cI cZ ad S (eo ad x y rest)) 0 0 11 [(0, .ref (ad 32)), (1, .ref (ad 0)), (2, .int x2), (4, .int x4)] [.int s0] := by
  unfold X5_isFound_b11 at h
  refine x_iconst C (v := 1) dX5_isFound_11 (by decide) ?_
  refine x_icmp_ne C (t := 33) dX5_isFound_12 (by decide) (fun c12 => ?_) (fun c12 => ?_)
  · replace h := (if_neg c12).symm.trans h
    refine x_locals (lv' := []) [] rfl ?_
    exact X_X5_isFound_b33 C h
  · replace h := (if_pos c12).symm.trans h
    refine x_aload_n C 0 dX5_isFound_15 rfl ?_
    refine x_get C (R' := RX5) (T := TX5) (N := 6) (ci := 5) 32 4 rfl rfl (by decide) rfl rfl hi_X5_isFound_5 lk_X5_isFound_38 dX5_isFound_16 ?_
    refine x_iload_n C 2 dX5_isFound_19 rfl ?_
    refine x_aload_n C 1 dX5_isFound_20 rfl ?_
    refine x_iload C 3 dX5_isFound_21 rfl ?_
    obtain ⟨v23, hg23, h⟩ := ob h
    refine x_ci0 (x_runV C (As := [.int x2, .ref (ad 0), .int x4]) (rest := []) (c_X3_rightThatCounts hg23) (cw_X5_isFound_X3_rightThatCounts_186 C) 24 rfl rfl rfl (Nat.le_of_ble_eq_true rfl) dX5_isFound_23 ⟨Nat.zero_le _, Nat.zero_le _⟩) ?_
    refine x_if_ne C (t := 33) dX5_isFound_26 (by decide) (fun c26 => ?_) (fun c26 => ?_)
    · replace h := (if_neg c26).symm.trans h
      refine x_locals (lv' := []) [] rfl ?_
      exact X_X5_isFound_b33 C h
    · replace h := (if_pos c26).symm.trans h
      refine x_iconst C (v := 1) dX5_isFound_29 (by decide) ?_
      refine x_goto C (t := 34) dX5_isFound_30 (by decide) ?_
      refine x_locals (lv' := []) [] rfl ?_
      exact X_X5_isFound_b34 C h
def X5_isFound (S : St) (x2 x3 x4 : Int32) : Option (Int32 × St) :=
  (X1_truthFor S x3 x4).bind fun q8 => X5_isFound_b11 q8.2 x2 x4 q8.1
set_option maxHeartbeats 4000000 in
set_option maxRecDepth 100000 in
theorem X_X5_isFound {p : Program} {l : Launch} {e : Env} {s : State} {m : MethodId} {args : Array Value} {below : List Frame} {meth : Method} {c : Code} {D : va_G} {cI cZ cJ : ClassId} {ad : Nat → Nat} {rest w0 : va_W} {x y : Nat} (C : XC p rm_X5_isFound s m args meth c cX5_isFound 5 (some .boolean) RX5 wsX5_isFound D (t3 cI cZ cJ)) {S : St} {x2 x3 x4 : Int32} {r : Int32 × St} (h : X5_isFound S x2 x3 x4 = some r) : XW p l e rm_X5_isFound s m args below meth c D w0 5 (MQ below (QI D (t3 cI cZ cJ) w0 (wE cI cZ ad r.2 (eo ad x y rest)) s.heap.size r.1) args s 0 0 (va_A w0 s.heap.size)) (wE cI cZ ad S (eo ad x y rest)) 0 0 0 [(0, .ref (ad 32)), (1, .ref (ad 0)), (2, .int x2), (3, .int x3), (4, .int x4)] [] := by
  unfold X5_isFound at h
  refine x_aload_n C 0 dX5_isFound_0 rfl ?_
  refine x_get C (R' := RX5) (T := TX5) (N := 6) (ci := 5) 32 5 rfl rfl (by decide) rfl rfl hi_X5_isFound_5 lk_X5_isFound_45 dX5_isFound_1 ?_
  refine x_iload_n C 3 dX5_isFound_4 rfl ?_
  refine x_aload_n C 1 dX5_isFound_5 rfl ?_
  refine x_iload C 4 dX5_isFound_6 rfl ?_
  obtain ⟨⟨v8, S8⟩, hg8, h⟩ := ob h
  refine x_ci0 (x_runV C (As := [.int x3, .ref (ad 0), .int x4]) (rest := []) (c_X1_truthFor hg8) (cw_X5_isFound_X1_truthFor_165 C) 27 rfl rfl rfl (Nat.le_of_ble_eq_true rfl) dX5_isFound_8 ⟨Nat.zero_le _, Nat.zero_le _⟩) ?_
  refine x_locals (lv' := [(0, .ref (ad 32)), (1, .ref (ad 0)), (2, .int x2), (4, .int x4)]) [0, 1, 2, 4] rfl ?_
  exact X_X5_isFound_b11 C h
set_option maxRecDepth 100000 in
theorem c_X5_isFound {l : Launch} {D : va_G} {cI cZ cJ : ClassId} {ad : Nat → Nat} {S : St} {rest : va_W} {x y : Nat} {x2 x3 x4 : Int32} {r : Int32 × St} (h : X5_isFound S x2 x3 x4 = some r) : ∀ sz, Met l yX5_isFound wsX5_isFound rm_X5_isFound (PC D (t3 cI cZ cJ) [.ref (ad 32), .ref (ad 0), .int x2, .int x3, .int x4] (wE cI cZ ad S (eo ad x y rest)) sz) (QI D (t3 cI cZ cJ) (wE cI cZ ad S (eo ad x y rest)) (wE cI cZ ad r.2 (eo ad x y rest)) sz r.1) 0 0 (va_A (wE cI cZ ad S (eo ad x y rest)) sz) := by
  refine x_met (Qc := fun sz => QI D (t3 cI cZ cJ) (wE cI cZ ad S (eo ad x y rest)) (wE cI cZ ad r.2 (eo ad x y rest)) sz r.1) RX5 rfl (by decide) rfl (Nat.le_of_ble_eq_true rfl) (fun p e s m args below meth c C => ?_)
  exact X_X5_isFound C h
/-! EntryMasters.nextInScope(LEntryMasters$Tree;III)I -/
abbrev rm_X5_nextInScope : Room := { frames := 5, cells := 0, slots := 0, locals := 116 }
theorem hi_X5_nextInScope_5 : ∀ z ∈ u_ws RX5 TX5 6, z ∈ wsX5_nextInScope := by decide +kernel
theorem lk_X5_nextInScope_38 : Cond.fieldLink RX5 38 RX5 "marks" "LEntryMasters$Marks;" ∈ wsX5_nextInScope := by decide +kernel
theorem cw_X5_nextInScope_X4_childAfter_174 {p : Program} {s : State} {m : MethodId} {args : Array Value} {meth : Method} {c : Code} {D : va_G} {tys : List (ClassId × FieldType)} {R : Room} (C : XC p R s m args meth c cX5_nextInScope 5 (some .int) RX5 wsX5_nextInScope D tys) : CallW rm_X5_nextInScope s args RX5 RX4 174 yX4_childAfter cX4_childAfter 6 (some .int) wsX4_childAfter rm_X4_childAfter 0 0 3 := cwV 3 C.2.2.2.2.1 gX5_nextInScope_X4_childAfter rfl rfl rfl (by decide +kernel) ⟨Nat.le_of_ble_eq_true rfl, Nat.le_of_ble_eq_true rfl⟩
theorem cw_X5_nextInScope_X4_entryAfter_192 {p : Program} {s : State} {m : MethodId} {args : Array Value} {meth : Method} {c : Code} {D : va_G} {tys : List (ClassId × FieldType)} {R : Room} (C : XC p R s m args meth c cX5_nextInScope 5 (some .int) RX5 wsX5_nextInScope D tys) : CallW rm_X5_nextInScope s args RX5 RX4 192 yX4_entryAfter cX4_entryAfter 8 (some .int) wsX4_entryAfter rm_X4_entryAfter 0 0 3 := cwV 3 C.2.2.2.2.1 gX5_nextInScope_X4_entryAfter rfl rfl rfl (by decide +kernel) ⟨Nat.le_of_ble_eq_true rfl, Nat.le_of_ble_eq_true rfl⟩
theorem cw_X5_nextInScope_X4_orderUnderParent_189 {p : Program} {s : State} {m : MethodId} {args : Array Value} {meth : Method} {c : Code} {D : va_G} {tys : List (ClassId × FieldType)} {R : Room} (C : XC p R s m args meth c cX5_nextInScope 5 (some .int) RX5 wsX5_nextInScope D tys) : CallW rm_X5_nextInScope s args RX5 RX4 189 yX4_orderUnderParent cX4_orderUnderParent 3 (some .int) wsX4_orderUnderParent rm_X4_orderUnderParent 0 0 1 := cwV 1 C.2.2.2.2.1 gX5_nextInScope_X4_orderUnderParent rfl rfl rfl (by decide +kernel) ⟨Nat.le_of_ble_eq_true rfl, Nat.le_of_ble_eq_true rfl⟩
def X5_nextInScope (S : St) (x2 x3 x4 : Int32) : Option (Int32) :=
  if x3 = 1 then ((X4_orderUnderParent S x4).bind fun v33 => (X4_childAfter S x2 v33).bind fun v40 => some v40) else (if x3 = 2 then ((X4_entryAfter S x4 x2).bind fun v52 => some v52) else (some (-1)))
set_option maxHeartbeats 4000000 in
set_option maxRecDepth 100000 in
theorem X_X5_nextInScope {p : Program} {l : Launch} {e : Env} {s : State} {m : MethodId} {args : Array Value} {below : List Frame} {meth : Method} {c : Code} {D : va_G} {cI cZ cJ : ClassId} {ad : Nat → Nat} {rest w0 : va_W} {x y : Nat} (C : XC p rm_X5_nextInScope s m args meth c cX5_nextInScope 5 (some .int) RX5 wsX5_nextInScope D (t3 cI cZ cJ)) {S : St} {x2 x3 x4 : Int32} {r : Int32} (h : X5_nextInScope S x2 x3 x4 = some r) : XW p l e rm_X5_nextInScope s m args below meth c D w0 5 (MQ below (QI D (t3 cI cZ cJ) w0 (wE cI cZ ad S (eo ad x y rest)) s.heap.size r) args s 0 0 (va_A w0 s.heap.size)) (wE cI cZ ad S (eo ad x y rest)) 0 0 0 [(0, .ref (ad 32)), (1, .ref (ad 0)), (2, .int x2), (3, .int x3), (4, .int x4)] [] := by
  unfold X5_nextInScope at h
  refine x_iload_n C 3 dX5_nextInScope_0 rfl ?_
  by_cases c1_0 : x3 = 1
  · replace h := (if_pos c1_0).symm.trans h
    refine x_lookup C (t := 28) dX5_nextInScope_1 (by decide) (off := 27) (by rw [c1_0]; decide) (by decide) ?_
    refine x_aload_n C 1 dX5_nextInScope_28 rfl ?_
    refine x_iload_n C 2 dX5_nextInScope_29 rfl ?_
    refine x_aload_n C 1 dX5_nextInScope_30 rfl ?_
    refine x_iload C 4 dX5_nextInScope_31 rfl ?_
    obtain ⟨v33, hg33, h⟩ := ob h
    refine x_ci0 (x_runV C (As := [.int x4]) (rest := [.int x2, .ref (ad 0)]) (c_X4_orderUnderParent hg33) (cw_X5_nextInScope_X4_orderUnderParent_189 C) 0 rfl rfl rfl (Nat.le_of_ble_eq_true rfl) dX5_nextInScope_33 ⟨Nat.zero_le _, Nat.zero_le _⟩) ?_
    refine x_aload_n C 0 dX5_nextInScope_36 rfl ?_
    refine x_get C (R' := RX5) (T := TX5) (N := 6) (ci := 5) 32 4 rfl rfl (by decide) rfl rfl hi_X5_nextInScope_5 lk_X5_nextInScope_38 dX5_nextInScope_37 ?_
    obtain ⟨v40, hg40, h⟩ := ob h
    refine x_ci0 (x_runV C (As := [.int x2, .int v33, .ref (ad 24)]) (rest := []) (c_X4_childAfter hg40) (cw_X5_nextInScope_X4_childAfter_174 C) 0 rfl rfl rfl (Nat.le_of_ble_eq_true rfl) dX5_nextInScope_40 ⟨Nat.zero_le _, Nat.zero_le _⟩) ?_
    obtain rfl := Option.some.inj h
    exact x_iret C dX5_nextInScope_43
  · replace h := (if_neg c1_0).symm.trans h
    by_cases c1_1 : x3 = 2
    · replace h := (if_pos c1_1).symm.trans h
      refine x_lookup C (t := 44) dX5_nextInScope_1 (by decide) (off := 43) (by rw [c1_1]; decide) (by decide) ?_
      refine x_aload_n C 1 dX5_nextInScope_44 rfl ?_
      refine x_iload C 4 dX5_nextInScope_45 rfl ?_
      refine x_iload_n C 2 dX5_nextInScope_47 rfl ?_
      refine x_aload_n C 0 dX5_nextInScope_48 rfl ?_
      refine x_get C (R' := RX5) (T := TX5) (N := 6) (ci := 5) 32 4 rfl rfl (by decide) rfl rfl hi_X5_nextInScope_5 lk_X5_nextInScope_38 dX5_nextInScope_49 ?_
      obtain ⟨v52, hg52, h⟩ := ob h
      refine x_ci0 (x_runV C (As := [.int x4, .int x2, .ref (ad 24)]) (rest := []) (c_X4_entryAfter hg52) (cw_X5_nextInScope_X4_entryAfter_192 C) 0 rfl rfl rfl (Nat.le_of_ble_eq_true rfl) dX5_nextInScope_52 ⟨Nat.zero_le _, Nat.zero_le _⟩) ?_
      obtain rfl := Option.some.inj h
      exact x_iret C dX5_nextInScope_55
    · replace h := (if_neg c1_1).symm.trans h
      refine x_lookup C (t := 56) dX5_nextInScope_1 (by decide) (lk_off c1_0 c1_1) (by decide) ?_
      refine x_iconst C (v := (-1)) dX5_nextInScope_56 (by decide) ?_
      obtain rfl := Option.some.inj h
      exact x_iret C dX5_nextInScope_57
set_option maxRecDepth 100000 in
theorem c_X5_nextInScope {l : Launch} {D : va_G} {cI cZ cJ : ClassId} {ad : Nat → Nat} {S : St} {rest : va_W} {x y : Nat} {x2 x3 x4 : Int32} {r : Int32} (h : X5_nextInScope S x2 x3 x4 = some r) : ∀ sz, Met l yX5_nextInScope wsX5_nextInScope rm_X5_nextInScope (PC D (t3 cI cZ cJ) [.ref (ad 32), .ref (ad 0), .int x2, .int x3, .int x4] (wE cI cZ ad S (eo ad x y rest)) sz) (QI D (t3 cI cZ cJ) (wE cI cZ ad S (eo ad x y rest)) (wE cI cZ ad S (eo ad x y rest)) sz r) 0 0 (va_A (wE cI cZ ad S (eo ad x y rest)) sz) := by
  refine x_met (Qc := fun sz => QI D (t3 cI cZ cJ) (wE cI cZ ad S (eo ad x y rest)) (wE cI cZ ad S (eo ad x y rest)) sz r) RX5 rfl (by decide) rfl (Nat.le_of_ble_eq_true rfl) (fun p e s m args below meth c C => ?_)
  exact X_X5_nextInScope C h
/-! EntryMasters.search(IIIIII)I -/
abbrev rm_X5_search (kc : Nat) : Room := rmf 8 141 kc
theorem thr_X5_search_0_k : Cond.classLink RX5 169 (exN 0) ∈ wsX5_search := by decide +kernel
theorem thr_X5_search_0_i : Cond.initialized (exN 0) ∈ wsX5_search := by decide +kernel
theorem thr_X5_search_0_a : ∀ z ∈ (vx_atS RX5 173 (exN 0) ["java/lang/RuntimeException", "java/lang/Exception"]).filter goodWord, z ∈ wsX5_search := by decide +kernel
theorem thr_X5_search_0_b : ∀ z ∈ (vx_atS RX5 173 (exN 0) ["java/lang/RuntimeException", "java/lang/Exception"]).filter (fun z => !goodWord z), z ∈ [Cond.castable (exN 0) (exN 0), Cond.declares (Bundle.initS (deN 0)), Cond.declares (Bundle.initS (deN 1)), Cond.declares (Bundle.initS (deN 2))] := by decide +kernel
theorem thr_X5_search_0_g : ∀ z ∈ Cond.classLink RX5 169 (exN 0) :: Cond.initialized (exN 0) :: vx_atS RX5 173 (exN 0) ["java/lang/RuntimeException", "java/lang/Exception"], vx_ot z = true := by decide +kernel
theorem hi_X5_search_1 : ∀ z ∈ u_ws RX1 TX1 5, z ∈ wsX5_search := by decide +kernel
theorem hi_X5_search_5 : ∀ z ∈ u_ws RX5 TX5 6, z ∈ wsX5_search := by decide +kernel
theorem lk_X5_search_38 : Cond.fieldLink RX5 38 RX5 "marks" "LEntryMasters$Marks;" ∈ wsX5_search := by decide +kernel
theorem lk_X5_search_45 : Cond.fieldLink RX5 45 RX5 "filters" "LEntryMasters$Filters;" ∈ wsX5_search := by decide +kernel
theorem cw_X5_search_X4_childAfter_174 {p : Program} {s : State} {m : MethodId} {args : Array Value} {meth : Method} {c : Code} {D : va_G} {tys : List (ClassId × FieldType)} {R : Room} {kc : Nat} (C : XC p R s m args meth c cX5_search 11 (some .int) RX5 wsX5_search D tys) : CallW (rm_X5_search kc) s args RX5 RX4 174 yX4_childAfter cX4_childAfter 6 (some .int) wsX4_childAfter rm_X4_childAfter 0 0 3 := cwV 3 C.2.2.2.2.1 gX5_search_X4_childAfter rfl rfl rfl (by decide +kernel) ⟨Nat.le_of_ble_eq_true rfl, Nat.le_of_ble_eq_true rfl⟩
theorem cw_X5_search_X5_checkArgument_53 {p : Program} {s : State} {m : MethodId} {args : Array Value} {meth : Method} {c : Code} {D : va_G} {tys : List (ClassId × FieldType)} {R : Room} {kc : Nat} (C : XC p R s m args meth c cX5_search 11 (some .int) RX5 wsX5_search D tys) : CallB (rm_X5_search kc) s args RX5 53 yX5_checkArgument cX5_checkArgument 3 none wsX5_checkArgument (rm_X5_checkArgument 0) 0 0 3 ∧ (Cond.static yX5_checkArgument).before args s = true := va_cwS 3 C.2.2.2.2.1 gX5_search_X5_checkArgument rfl rfl rfl (by decide +kernel) ⟨Nat.le_of_ble_eq_true rfl, Nat.le_of_ble_eq_true rfl⟩
theorem cw_X5_search_X5_checkArgument_53_th {p : Program} {s : State} {m : MethodId} {args : Array Value} {meth : Method} {c : Code} {D : va_G} {tys : List (ClassId × FieldType)} {R : Room} {kc : Nat} {q : Nat} (C : XC p R s m args meth c cX5_search 11 (some .int) RX5 wsX5_search D tys) : CallB (rm_X5_search kc) s args RX5 53 yX5_checkArgument cX5_checkArgument 3 none wsX5_checkArgument (rm_X5_checkArgument (q + 1)) 1 6 3 ∧ (Cond.static yX5_checkArgument).before args s = true := va_cwS 3 C.2.2.2.2.1 gX5_search_X5_checkArgument rfl rfl rfl (by decide +kernel) ⟨Nat.le_of_ble_eq_true rfl, Nat.le_of_ble_eq_true rfl⟩
theorem cw_X5_search_X5_checkEntry_75 {p : Program} {s : State} {m : MethodId} {args : Array Value} {meth : Method} {c : Code} {D : va_G} {tys : List (ClassId × FieldType)} {R : Room} {kc : Nat} (C : XC p R s m args meth c cX5_search 11 (some .int) RX5 wsX5_search D tys) : CallB (rm_X5_search kc) s args RX5 75 yX5_checkEntry cX5_checkEntry 2 none wsX5_checkEntry (rm_X5_checkEntry 0) 0 0 2 ∧ (Cond.static yX5_checkEntry).before args s = true := va_cwS 2 C.2.2.2.2.1 gX5_search_X5_checkEntry rfl rfl rfl (by decide +kernel) ⟨Nat.le_of_ble_eq_true rfl, Nat.le_of_ble_eq_true rfl⟩
theorem cw_X5_search_X5_checkEntry_75_th {p : Program} {s : State} {m : MethodId} {args : Array Value} {meth : Method} {c : Code} {D : va_G} {tys : List (ClassId × FieldType)} {R : Room} {kc : Nat} {q : Nat} (C : XC p R s m args meth c cX5_search 11 (some .int) RX5 wsX5_search D tys) : CallB (rm_X5_search kc) s args RX5 75 yX5_checkEntry cX5_checkEntry 2 none wsX5_checkEntry (rm_X5_checkEntry (q + 1)) 1 6 2 ∧ (Cond.static yX5_checkEntry).before args s = true := va_cwS 2 C.2.2.2.2.1 gX5_search_X5_checkEntry rfl rfl rfl (by decide +kernel) ⟨Nat.le_of_ble_eq_true rfl, Nat.le_of_ble_eq_true rfl⟩
theorem cw_X5_search_X5_checkIndex_49 {p : Program} {s : State} {m : MethodId} {args : Array Value} {meth : Method} {c : Code} {D : va_G} {tys : List (ClassId × FieldType)} {R : Room} {kc : Nat} (C : XC p R s m args meth c cX5_search 11 (some .int) RX5 wsX5_search D tys) : CallB (rm_X5_search kc) s args RX5 49 yX5_checkIndex cX5_checkIndex 2 none wsX5_checkIndex (rm_X5_checkIndex 0) 0 0 2 ∧ (Cond.static yX5_checkIndex).before args s = true := va_cwS 2 C.2.2.2.2.1 gX5_search_X5_checkIndex rfl rfl rfl (by decide +kernel) ⟨Nat.le_of_ble_eq_true rfl, Nat.le_of_ble_eq_true rfl⟩
theorem cw_X5_search_X5_checkIndex_49_th {p : Program} {s : State} {m : MethodId} {args : Array Value} {meth : Method} {c : Code} {D : va_G} {tys : List (ClassId × FieldType)} {R : Room} {kc : Nat} {q : Nat} (C : XC p R s m args meth c cX5_search 11 (some .int) RX5 wsX5_search D tys) : CallB (rm_X5_search kc) s args RX5 49 yX5_checkIndex cX5_checkIndex 2 none wsX5_checkIndex (rm_X5_checkIndex (q + 1)) 1 6 2 ∧ (Cond.static yX5_checkIndex).before args s = true := va_cwS 2 C.2.2.2.2.1 gX5_search_X5_checkIndex rfl rfl rfl (by decide +kernel) ⟨Nat.le_of_ble_eq_true rfl, Nat.le_of_ble_eq_true rfl⟩
theorem cw_X5_search_X5_isFound_178 {p : Program} {s : State} {m : MethodId} {args : Array Value} {meth : Method} {c : Code} {D : va_G} {tys : List (ClassId × FieldType)} {R : Room} {kc : Nat} (C : XC p R s m args meth c cX5_search 11 (some .int) RX5 wsX5_search D tys) : CallW (rm_X5_search kc) s args RX5 RX5 178 yX5_isFound cX5_isFound 5 (some .boolean) wsX5_isFound rm_X5_isFound 0 0 4 := cwV 4 C.2.2.2.2.1 gX5_search_X5_isFound rfl rfl rfl (by decide +kernel) ⟨Nat.le_of_ble_eq_true rfl, Nat.le_of_ble_eq_true rfl⟩
theorem cw_X5_search_X5_nextInScope_182 {p : Program} {s : State} {m : MethodId} {args : Array Value} {meth : Method} {c : Code} {D : va_G} {tys : List (ClassId × FieldType)} {R : Room} {kc : Nat} (C : XC p R s m args meth c cX5_search 11 (some .int) RX5 wsX5_search D tys) : CallW (rm_X5_search kc) s args RX5 RX5 182 yX5_nextInScope cX5_nextInScope 5 (some .int) wsX5_nextInScope rm_X5_nextInScope 0 0 4 := cwV 4 C.2.2.2.2.1 gX5_search_X5_nextInScope rfl rfl rfl (by decide +kernel) ⟨Nat.le_of_ble_eq_true rfl, Nat.le_of_ble_eq_true rfl⟩
theorem cw_X5_search_X5_treeOf_71 {p : Program} {s : State} {m : MethodId} {args : Array Value} {meth : Method} {c : Code} {D : va_G} {tys : List (ClassId × FieldType)} {R : Room} {kc : Nat} (C : XC p R s m args meth c cX5_search 11 (some .int) RX5 wsX5_search D tys) : CallW (rm_X5_search kc) s args RX5 RX5 71 yX5_treeOf cX5_treeOf 2 (some (.object "EntryMasters$Tree")) wsX5_treeOf (rm_X5_treeOf 0) 0 0 1 := cwV 1 C.2.2.2.2.1 gX5_search_X5_treeOf rfl rfl rfl (by decide +kernel) ⟨Nat.le_of_ble_eq_true rfl, Nat.le_of_ble_eq_true rfl⟩
theorem cw_X5_search_X5_treeOf_71_th {p : Program} {s : State} {m : MethodId} {args : Array Value} {meth : Method} {c : Code} {D : va_G} {tys : List (ClassId × FieldType)} {R : Room} {kc : Nat} {q : Nat} (C : XC p R s m args meth c cX5_search 11 (some .int) RX5 wsX5_search D tys) : CallW (rm_X5_search kc) s args RX5 RX5 71 yX5_treeOf cX5_treeOf 2 (some (.object "EntryMasters$Tree")) wsX5_treeOf (rm_X5_treeOf (q + 1)) 1 6 1 := cwV 1 C.2.2.2.2.1 gX5_search_X5_treeOf rfl rfl rfl (by decide +kernel) ⟨Nat.le_of_ble_eq_true rfl, Nat.le_of_ble_eq_true rfl⟩
def X5_search_b140 (S : St) : Option (Nat × Int32 × St) :=
  some (0, (-1), S)
set_option maxHeartbeats 4000000 in
set_option maxRecDepth 100000 in
theorem X_X5_search_b140 {p : Program} {l : Launch} {e : Env} {s : State} {m : MethodId} {args : Array Value} {below : List Frame} {meth : Method} {c : Code} {D : va_G} {cI cZ cJ : ClassId} {ad : Nat → Nat} {rest w0 : va_W} {x y : Nat} {z : Nat × Int32 × St} (C : XC p (rm_X5_search z.1) s m args meth c cX5_search 11 (some .int) RX5 wsX5_search D (t3 cI cZ cJ)) (T : z.1 ≠ 0 → XT l s c w0) {S : St} (h : X5_search_b140 S = some z) : XW p l e (rm_X5_search z.1) s m args below meth c D w0 11 (QZ z.1 (MQ below (QI D (t3 cI cZ cJ) w0 (wE cI cZ ad z.2.2 (eo ad x y rest)) s.heap.size z.2.1) args s 0 0 (va_A w0 s.heap.size)) (fun q9 => vx_MQ below nQ (XX D (t3 cI cZ cJ) w0 (wE cI cZ ad z.2.2 (eo ad x y rest)) s.heap.size (exN q9)) args s 1 6 (va_A w0 s.heap.size))) (wE cI cZ ad S (eo ad x y rest)) 0 0 140 [] [] := by
  unfold X5_search_b140 at h
  refine x_iconst C (v := (-1)) dX5_search_140 (by decide) ?_
  obtain rfl := Option.some.inj h
  exact x_iret C (v := (-1)) dX5_search_141
def X5_search_b121 (S : St) (x2 x3 x4 x5 x6 x8 x9 x10 : Int32) : Option ((St × Int32 × Int32 × Int32 × Int32 × Int32 × Int32 × Int32 × Int32) ⊕ (Nat × Int32 × St)) :=
  (X5_nextInScope S x3 x4 x9).bind fun v129 => some (.inl (S, x2, x3, x4, x5, x6, x8, v129, x10 + 1))
set_option maxHeartbeats 4000000 in
set_option maxRecDepth 100000 in
theorem X_X5_search_b121 {p : Program} {l : Launch} {e : Env} {s : State} {m : MethodId} {args : Array Value} {below : List Frame} {meth : Method} {c : Code} {D : va_G} {cI cZ cJ : ClassId} {ad : Nat → Nat} {rest w0 : va_W} {x y : Nat} {r : Nat × Int32 × St} (C : XC p (rm_X5_search r.1) s m args meth c cX5_search 11 (some .int) RX5 wsX5_search D (t3 cI cZ cJ)) (T : r.1 ≠ 0 → XT l s c w0) {S : St} {x2 x3 x4 x5 x6 x8 x9 x10 : Int32} {z : (St × Int32 × Int32 × Int32 × Int32 × Int32 × Int32 × Int32 × Int32) ⊕ (Nat × Int32 × St)} (h : X5_search_b121 S x2 x3 x4 x5 x6 x8 x9 x10 = some z) (hk : ∀ a' : (St × Int32 × Int32 × Int32 × Int32 × Int32 × Int32 × Int32 × Int32), z = .inl a' → XW p l e (rm_X5_search r.1) s m args below meth c D w0 11 (QZ r.1 (MQ below (QI D (t3 cI cZ cJ) w0 (wE cI cZ ad r.2.2 (eo ad x y rest)) s.heap.size r.2.1) args s 0 0 (va_A w0 s.heap.size)) (fun q9 => vx_MQ below nQ (XX D (t3 cI cZ cJ) w0 (wE cI cZ ad r.2.2 (eo ad x y rest)) s.heap.size (exN q9)) args s 1 6 (va_A w0 s.heap.size))) (wE cI cZ ad a'.1 (eo ad x y rest)) 0 0 81 [(0, .ref (ad 32)), (2, .int a'.2.1), (3, .int a'.2.2.1), (4, .int a'.2.2.2.1), (5, .int a'.2.2.2.2.1), (6, .int a'.2.2.2.2.2.1), (7, .ref (ad 0)), (8, .int a'.2.2.2.2.2.2.1), (9, .int a'.2.2.2.2.2.2.2.1), (10, .int a'.2.2.2.2.2.2.2.2)] []) (hr : ∀ r', z = .inr r' → r' = r) : XW p l e (rm_X5_search r.1) s m args below meth c D w0 11 (QZ r.1 (MQ below (QI D (t3 cI cZ cJ) w0 (wE cI cZ ad r.2.2 (eo ad x y rest)) s.heap.size r.2.1) args s 0 0 (va_A w0 s.heap.size)) (fun q9 => vx_MQ below nQ (XX D (t3 cI cZ cJ) w0 (wE cI cZ ad r.2.2 (eo ad x y rest)) s.heap.size (exN q9)) args s 1 6 (va_A w0 s.heap.size))) (wE cI cZ ad S (eo ad x y rest)) 0 0 121 [(0, .ref (ad 32)), (2, .int x2), (3, .int x3), (4, .int x4), (5, .int x5), (6, .int x6), (7, .ref (ad 0)), (8, .int x8), (9, .int x9), (10, .int x10)] [] := by
  unfold X5_search_b121 at h
  refine x_aload_n C 0 dX5_search_121 rfl ?_
  refine x_aload C 6 dX5_search_122 rfl ?_
  refine x_iload_n C 2 dX5_search_124 rfl ?_
  refine x_iload C 3 dX5_search_125 rfl ?_
  refine x_iload C 8 dX5_search_127 rfl ?_
  obtain ⟨v129, hg129, h⟩ := ob h
  refine x_ci0 (x_runV C (As := [.ref (ad 0), .int x3, .int x4, .int x9]) (rest := []) (c_X5_nextInScope hg129) (cw_X5_search_X5_nextInScope_182 C) 32 rfl rfl rfl (Nat.le_of_ble_eq_true rfl) dX5_search_129 ⟨Nat.zero_le _, Nat.zero_le _⟩) ?_
  refine x_istore C (lv' := [(0, .ref (ad 32)), (2, .int x2), (3, .int x3), (4, .int x4), (5, .int x5), (6, .int x6), (7, .ref (ad 0)), (8, .int x8), (9, .int v129), (10, .int x10)]) dX5_search_132 (by decide) rfl ?_
  refine x_iinc C (v := x10 + 1) (lv' := [(0, .ref (ad 32)), (2, .int x2), (3, .int x3), (4, .int x4), (5, .int x5), (6, .int x6), (7, .ref (ad 0)), (8, .int x8), (9, .int v129), (10, .int (x10 + 1))]) 9 dX5_search_134 rfl rfl (by decide) rfl ?_
  refine x_goto C (t := 81) dX5_search_137 (by decide) ?_
  exact hk _ (Option.some.inj h).symm
def X5_search_b115 (S : St) (x9 : Int32) : Option (Nat × Int32 × St) :=
  some (0, x9, S)
set_option maxHeartbeats 4000000 in
set_option maxRecDepth 100000 in
theorem X_X5_search_b115 {p : Program} {l : Launch} {e : Env} {s : State} {m : MethodId} {args : Array Value} {below : List Frame} {meth : Method} {c : Code} {D : va_G} {cI cZ cJ : ClassId} {ad : Nat → Nat} {rest w0 : va_W} {x y : Nat} {z : Nat × Int32 × St} (C : XC p (rm_X5_search z.1) s m args meth c cX5_search 11 (some .int) RX5 wsX5_search D (t3 cI cZ cJ)) (T : z.1 ≠ 0 → XT l s c w0) {S : St} {x9 : Int32} (h : X5_search_b115 S x9 = some z) : XW p l e (rm_X5_search z.1) s m args below meth c D w0 11 (QZ z.1 (MQ below (QI D (t3 cI cZ cJ) w0 (wE cI cZ ad z.2.2 (eo ad x y rest)) s.heap.size z.2.1) args s 0 0 (va_A w0 s.heap.size)) (fun q9 => vx_MQ below nQ (XX D (t3 cI cZ cJ) w0 (wE cI cZ ad z.2.2 (eo ad x y rest)) s.heap.size (exN q9)) args s 1 6 (va_A w0 s.heap.size))) (wE cI cZ ad S (eo ad x y rest)) 0 0 115 [(9, .int x9)] [] := by
  unfold X5_search_b115 at h
  refine x_iload C 0 dX5_search_115 rfl ?_
  obtain rfl := Option.some.inj h
  exact x_iret C (v := x9) dX5_search_117
def X5_search_b105 (S : St) (x2 x3 x4 x5 x6 x8 x9 x10 s0 : Int32) : Option ((St × Int32 × Int32 × Int32 × Int32 × Int32 × Int32 × Int32 × Int32) ⊕ (Nat × Int32 × St)) :=
  if s0 = 0 then (X5_search_b121 S x2 x3 x4 x5 x6 x8 x9 x10) else (if x8 = x6 then (exI (X5_search_b115 S x9)) else (X5_search_b121 S x2 x3 x4 x5 x6 (x8 + 1) x9 x10))
set_option maxHeartbeats 4000000 in
set_option maxRecDepth 100000 in
theorem X_X5_search_b105 {p : Program} {l : Launch} {e : Env} {s : State} {m : MethodId} {args : Array Value} {below : List Frame} {meth : Method} {c : Code} {D : va_G} {cI cZ cJ : ClassId} {ad : Nat → Nat} {rest w0 : va_W} {x y : Nat} {r : Nat × Int32 × St} (C : XC p (rm_X5_search r.1) s m args meth c cX5_search 11 (some .int) RX5 wsX5_search D (t3 cI cZ cJ)) (T : r.1 ≠ 0 → XT l s c w0) {S : St} {x2 x3 x4 x5 x6 x8 x9 x10 s0 : Int32} {z : (St × Int32 × Int32 × Int32 × Int32 × Int32 × Int32 × Int32 × Int32) ⊕ (Nat × Int32 × St)} (h : X5_search_b105 S x2 x3 x4 x5 x6 x8 x9 x10 s0 = some z) (hk : ∀ a' : (St × Int32 × Int32 × Int32 × Int32 × Int32 × Int32 × Int32 × Int32), z = .inl a' → XW p l e (rm_X5_search r.1) s m args below meth c D w0 11 (QZ r.1 (MQ below (QI D (t3 cI cZ cJ) w0 (wE cI cZ ad r.2.2 (eo ad x y rest)) s.heap.size r.2.1) args s 0 0 (va_A w0 s.heap.size)) (fun q9 => vx_MQ below nQ (XX D (t3 cI cZ cJ) w0 (wE cI cZ ad r.2.2 (eo ad x y rest)) s.heap.size (exN q9)) args s 1 6 (va_A w0 s.heap.size))) (wE cI cZ ad a'.1 (eo ad x y rest)) 0 0 81 [(0, .ref (ad 32)), (2, .int a'.2.1), (3, .int a'.2.2.1), (4, .int a'.2.2.2.1), (5, .int a'.2.2.2.2.1), (6, .int a'.2.2.2.2.2.1), (7, .ref (ad 0)), (8, .int a'.2.2.2.2.2.2.1), (9, .int a'.2.2.2.2.2.2.2.1), (10, .int a'.2.2.2.2.2.2.2.2)] []) (hr : ∀ r', z = .inr r' → r' = r) : XW p l e (rm_X5_search r.1) s m args below meth c D w0 11 (QZ r.1 (MQ below (QI D (t3 cI cZ cJ) w0 (wE cI cZ ad r.2.2 (eo ad x y rest)) s.heap.size r.2.1) args s 0 0 (va_A w0 s.heap.size)) (fun q9 => vx_MQ below nQ (XX D (t3 cI cZ cJ) w0 (wE cI cZ ad r.2.2 (eo ad x y rest)) s.heap.size (exN q9)) args s 1 6 (va_A w0 s.heap.size))) (wE cI cZ ad S (eo ad x y rest)) 0 0 105 [(0, .ref (ad 32)), (2, .int x2), (3, .int x3), (4, .int x4), (5, .int x5), (6, .int x6), (7, .ref (ad 0)), (8, .int x8), (9, .int x9), (10, .int x10)] [.int s0] := by
  unfold X5_search_b105 at h
  refine x_if_eq C (t := 121) dX5_search_105 (by decide) (fun c105 => ?_) (fun c105 => ?_)
  · replace h := (if_pos c105).symm.trans h
    exact X_X5_search_b121 C T h hk hr
  · replace h := (if_neg c105).symm.trans h
    refine x_iload C 7 dX5_search_108 rfl ?_
    refine x_iload C 5 dX5_search_110 rfl ?_
    refine x_icmp_ne C (t := 118) dX5_search_112 (by decide) (fun c112 => ?_) (fun c112 => ?_)
    · replace h := (if_neg c112).symm.trans h
      refine x_iinc C (v := x8 + 1) (lv' := [(0, .ref (ad 32)), (2, .int x2), (3, .int x3), (4, .int x4), (5, .int x5), (6, .int x6), (7, .ref (ad 0)), (8, .int (x8 + 1)), (9, .int x9), (10, .int x10)]) 7 dX5_search_118 rfl rfl (by decide) rfl ?_
      exact X_X5_search_b121 C T h hk hr
    · replace h := (if_pos c112).symm.trans h
      refine x_locals (lv' := [(9, .int x9)]) [8] rfl ?_
      obtain ⟨r1, h1, h2⟩ := exI_some h
      obtain rfl := hr r1 h2
      exact X_X5_search_b115 C T h1
def X5_search_H81 (S : St) (x2 x3 x4 x5 x6 x8 x9 x10 : Int32) : Option ((St × Int32 × Int32 × Int32 × Int32 × Int32 × Int32 × Int32 × Int32) ⊕ (Nat × Int32 × St)) :=
  if 42 ≤ x10 then (exI (X5_search_b140 S)) else (if x9 = (-1) then (exI (X5_search_b140 S)) else ((X5_isFound S x2 x5 x9).bind fun q102 => X5_search_b105 q102.2 x2 x3 x4 x5 x6 x8 x9 x10 q102.1))
set_option maxHeartbeats 4000000 in
set_option maxRecDepth 100000 in
theorem X_X5_search_H81 {p : Program} {l : Launch} {e : Env} {s : State} {m : MethodId} {args : Array Value} {below : List Frame} {meth : Method} {c : Code} {D : va_G} {cI cZ cJ : ClassId} {ad : Nat → Nat} {rest w0 : va_W} {x y : Nat} {r : Nat × Int32 × St} (C : XC p (rm_X5_search r.1) s m args meth c cX5_search 11 (some .int) RX5 wsX5_search D (t3 cI cZ cJ)) (T : r.1 ≠ 0 → XT l s c w0) {S : St} {x2 x3 x4 x5 x6 x8 x9 x10 : Int32} {z : (St × Int32 × Int32 × Int32 × Int32 × Int32 × Int32 × Int32 × Int32) ⊕ (Nat × Int32 × St)} (h : X5_search_H81 S x2 x3 x4 x5 x6 x8 x9 x10 = some z) (hk : ∀ a' : (St × Int32 × Int32 × Int32 × Int32 × Int32 × Int32 × Int32 × Int32), z = .inl a' → XW p l e (rm_X5_search r.1) s m args below meth c D w0 11 (QZ r.1 (MQ below (QI D (t3 cI cZ cJ) w0 (wE cI cZ ad r.2.2 (eo ad x y rest)) s.heap.size r.2.1) args s 0 0 (va_A w0 s.heap.size)) (fun q9 => vx_MQ below nQ (XX D (t3 cI cZ cJ) w0 (wE cI cZ ad r.2.2 (eo ad x y rest)) s.heap.size (exN q9)) args s 1 6 (va_A w0 s.heap.size))) (wE cI cZ ad a'.1 (eo ad x y rest)) 0 0 81 [(0, .ref (ad 32)), (2, .int a'.2.1), (3, .int a'.2.2.1), (4, .int a'.2.2.2.1), (5, .int a'.2.2.2.2.1), (6, .int a'.2.2.2.2.2.1), (7, .ref (ad 0)), (8, .int a'.2.2.2.2.2.2.1), (9, .int a'.2.2.2.2.2.2.2.1), (10, .int a'.2.2.2.2.2.2.2.2)] []) (hr : ∀ r', z = .inr r' → r' = r) : XW p l e (rm_X5_search r.1) s m args below meth c D w0 11 (QZ r.1 (MQ below (QI D (t3 cI cZ cJ) w0 (wE cI cZ ad r.2.2 (eo ad x y rest)) s.heap.size r.2.1) args s 0 0 (va_A w0 s.heap.size)) (fun q9 => vx_MQ below nQ (XX D (t3 cI cZ cJ) w0 (wE cI cZ ad r.2.2 (eo ad x y rest)) s.heap.size (exN q9)) args s 1 6 (va_A w0 s.heap.size))) (wE cI cZ ad S (eo ad x y rest)) 0 0 81 [(0, .ref (ad 32)), (2, .int x2), (3, .int x3), (4, .int x4), (5, .int x5), (6, .int x6), (7, .ref (ad 0)), (8, .int x8), (9, .int x9), (10, .int x10)] [] := by
  unfold X5_search_H81 at h
  refine x_iload C 9 dX5_search_81 rfl ?_
  refine x_bipush C (v := 42) dX5_search_83 (by decide) ?_
  refine x_icmp_ge C (t := 140) dX5_search_85 (by decide) (fun c85 => ?_) (fun c85 => ?_)
  · replace h := (if_pos c85).symm.trans h
    refine x_locals (lv' := []) [] rfl ?_
    obtain ⟨r1, h1, h2⟩ := exI_some h
    obtain rfl := hr r1 h2
    exact X_X5_search_b140 C T h1
  · replace h := (if_neg c85).symm.trans h
    refine x_iload C 8 dX5_search_88 rfl ?_
    refine x_iconst C (v := (-1)) dX5_search_90 (by decide) ?_
    refine x_icmp_eq C (t := 140) dX5_search_91 (by decide) (fun c91 => ?_) (fun c91 => ?_)
    · replace h := (if_pos c91).symm.trans h
      refine x_locals (lv' := []) [] rfl ?_
      obtain ⟨r1, h1, h2⟩ := exI_some h
      obtain rfl := hr r1 h2
      exact X_X5_search_b140 C T h1
    · replace h := (if_neg c91).symm.trans h
      refine x_aload_n C 0 dX5_search_94 rfl ?_
      refine x_aload C 6 dX5_search_95 rfl ?_
      refine x_iload_n C 1 dX5_search_97 rfl ?_
      refine x_iload C 4 dX5_search_98 rfl ?_
      refine x_iload C 8 dX5_search_100 rfl ?_
      obtain ⟨⟨v102, S102⟩, hg102, h⟩ := ob h
      refine x_ci0 (x_runV C (As := [.ref (ad 0), .int x2, .int x5, .int x9]) (rest := []) (c_X5_isFound hg102) (cw_X5_search_X5_isFound_178 C) 32 rfl rfl rfl (Nat.le_of_ble_eq_true rfl) dX5_search_102 ⟨Nat.zero_le _, Nat.zero_le _⟩) ?_
      exact X_X5_search_b105 C T h hk hr
def X5_search_L81 (S : St) (x2 x3 x4 x5 x6 x8 x9 x10 : Int32) : Option (Nat × Int32 × St) := wloop (fun a' : (St × Int32 × Int32 × Int32 × Int32 × Int32 × Int32 × Int32 × Int32) => X5_search_H81 a'.1 a'.2.1 a'.2.2.1 a'.2.2.2.1 a'.2.2.2.2.1 a'.2.2.2.2.2.1 a'.2.2.2.2.2.2.1 a'.2.2.2.2.2.2.2.1 a'.2.2.2.2.2.2.2.2) 1000 (S, x2, x3, x4, x5, x6, x8, x9, x10)
set_option maxHeartbeats 4000000 in
set_option maxRecDepth 100000 in
theorem X_X5_search_L81 {p : Program} {l : Launch} {e : Env} {s : State} {m : MethodId} {args : Array Value} {below : List Frame} {meth : Method} {c : Code} {D : va_G} {cI cZ cJ : ClassId} {ad : Nat → Nat} {rest w0 : va_W} {x y : Nat} {z : Nat × Int32 × St} (C : XC p (rm_X5_search z.1) s m args meth c cX5_search 11 (some .int) RX5 wsX5_search D (t3 cI cZ cJ)) (T : z.1 ≠ 0 → XT l s c w0) {S : St} {x2 x3 x4 x5 x6 x8 x9 x10 : Int32} (h : X5_search_L81 S x2 x3 x4 x5 x6 x8 x9 x10 = some z) : XW p l e (rm_X5_search z.1) s m args below meth c D w0 11 (QZ z.1 (MQ below (QI D (t3 cI cZ cJ) w0 (wE cI cZ ad z.2.2 (eo ad x y rest)) s.heap.size z.2.1) args s 0 0 (va_A w0 s.heap.size)) (fun q9 => vx_MQ below nQ (XX D (t3 cI cZ cJ) w0 (wE cI cZ ad z.2.2 (eo ad x y rest)) s.heap.size (exN q9)) args s 1 6 (va_A w0 s.heap.size))) (wE cI cZ ad S (eo ad x y rest)) 0 0 81 [(0, .ref (ad 32)), (2, .int x2), (3, .int x3), (4, .int x4), (5, .int x5), (6, .int x6), (7, .ref (ad 0)), (8, .int x8), (9, .int x9), (10, .int x10)] [] :=
  wloop_met (P := (fun a' : (St × Int32 × Int32 × Int32 × Int32 × Int32 × Int32 × Int32 × Int32) => XW p l e (rm_X5_search z.1) s m args below meth c D w0 11 (QZ z.1 (MQ below (QI D (t3 cI cZ cJ) w0 (wE cI cZ ad z.2.2 (eo ad x y rest)) s.heap.size z.2.1) args s 0 0 (va_A w0 s.heap.size)) (fun q9 => vx_MQ below nQ (XX D (t3 cI cZ cJ) w0 (wE cI cZ ad z.2.2 (eo ad x y rest)) s.heap.size (exN q9)) args s 1 6 (va_A w0 s.heap.size))) (wE cI cZ ad a'.1 (eo ad x y rest)) 0 0 81 [(0, .ref (ad 32)), (2, .int a'.2.1), (3, .int a'.2.2.1), (4, .int a'.2.2.2.1), (5, .int a'.2.2.2.2.1), (6, .int a'.2.2.2.2.2.1), (7, .ref (ad 0)), (8, .int a'.2.2.2.2.2.2.1), (9, .int a'.2.2.2.2.2.2.2.1), (10, .int a'.2.2.2.2.2.2.2.2)] [])) (fun _ _ hz hk hr => X_X5_search_H81 C T hz hk hr) 1000 (S, x2, x3, x4, x5, x6, x8, x9, x10) h
def X5_search_b76 (S : St) (x2 x3 x4 x5 x6 x8 s0 : Int32) : Option (Nat × Int32 × St) :=
  X5_search_L81 S x2 x3 x4 x5 x6 x8 s0 0
set_option maxHeartbeats 4000000 in
set_option maxRecDepth 100000 in
theorem X_X5_search_b76 {p : Program} {l : Launch} {e : Env} {s : State} {m : MethodId} {args : Array Value} {below : List Frame} {meth : Method} {c : Code} {D : va_G} {cI cZ cJ : ClassId} {ad : Nat → Nat} {rest w0 : va_W} {x y : Nat} {z : Nat × Int32 × St} (C : XC p (rm_X5_search z.1) s m args meth c cX5_search 11 (some .int) RX5 wsX5_search D (t3 cI cZ cJ)) (T : z.1 ≠ 0 → XT l s c w0) {S : St} {x2 x3 x4 x5 x6 x8 s0 : Int32} (h : X5_search_b76 S x2 x3 x4 x5 x6 x8 s0 = some z) : XW p l e (rm_X5_search z.1) s m args below meth c D w0 11 (QZ z.1 (MQ below (QI D (t3 cI cZ cJ) w0 (wE cI cZ ad z.2.2 (eo ad x y rest)) s.heap.size z.2.1) args s 0 0 (va_A w0 s.heap.size)) (fun q9 => vx_MQ below nQ (XX D (t3 cI cZ cJ) w0 (wE cI cZ ad z.2.2 (eo ad x y rest)) s.heap.size (exN q9)) args s 1 6 (va_A w0 s.heap.size))) (wE cI cZ ad S (eo ad x y rest)) 0 0 76 [(0, .ref (ad 32)), (2, .int x2), (3, .int x3), (4, .int x4), (5, .int x5), (6, .int x6), (7, .ref (ad 0)), (8, .int x8)] [.int s0] := by
  unfold X5_search_b76 at h
  refine x_istore C (lv' := [(0, .ref (ad 32)), (2, .int x2), (3, .int x3), (4, .int x4), (5, .int x5), (6, .int x6), (7, .ref (ad 0)), (8, .int x8), (9, .int s0)]) dX5_search_76 (by decide) rfl ?_
  refine x_iconst C (v := 0) dX5_search_78 (by decide) ?_
  refine x_istore C (lv' := [(0, .ref (ad 32)), (2, .int x2), (3, .int x3), (4, .int x4), (5, .int x5), (6, .int x6), (7, .ref (ad 0)), (8, .int x8), (9, .int s0), (10, .int 0)]) dX5_search_79 (by decide) rfl ?_
  exact X_X5_search_L81 C T h
def X5_search_b5 (S : St) (x2 x3 x4 x5 x6 : Int32) : Option (Nat × Int32 × St) :=
  (X5_checkIndex x2 3).bind fun q9 => if q9 = 0 then ((X5_checkEntry S x3).bind fun q15 => if q15 = 0 then ((X5_checkIndex x5 (S 27 4)).bind fun q27 => if q27 = 0 then (if 0 ≤ x6 then ((X5_checkArgument x4 0 2).bind fun q49 => if q49 = 0 then (if x4 = 1 then ((X4_childAfter S x3 (-1)).bind fun v69 => X5_search_b76 S x2 x3 x4 x5 x6 0 v69) else (X5_search_b76 S x2 x3 x4 x5 x6 0 x3)) else some (q49, 0, S)) else (some (1, 0, S))) else some (q27, 0, S)) else some (q15, 0, S)) else some (q9, 0, S)
set_option maxHeartbeats 4000000 in
set_option maxRecDepth 100000 in
theorem X_X5_search_b5 {p : Program} {l : Launch} {e : Env} {s : State} {m : MethodId} {args : Array Value} {below : List Frame} {meth : Method} {c : Code} {D : va_G} {cI cZ cJ : ClassId} {ad : Nat → Nat} {rest w0 : va_W} {x y : Nat} {z : Nat × Int32 × St} (C : XC p (rm_X5_search z.1) s m args meth c cX5_search 11 (some .int) RX5 wsX5_search D (t3 cI cZ cJ)) (T : z.1 ≠ 0 → XT l s c w0) {S : St} {x2 x3 x4 x5 x6 : Int32} (h : X5_search_b5 S x2 x3 x4 x5 x6 = some z) : XW p l e (rm_X5_search z.1) s m args below meth c D w0 11 (QZ z.1 (MQ below (QI D (t3 cI cZ cJ) w0 (wE cI cZ ad z.2.2 (eo ad x y rest)) s.heap.size z.2.1) args s 0 0 (va_A w0 s.heap.size)) (fun q9 => vx_MQ below nQ (XX D (t3 cI cZ cJ) w0 (wE cI cZ ad z.2.2 (eo ad x y rest)) s.heap.size (exN q9)) args s 1 6 (va_A w0 s.heap.size))) (wE cI cZ ad S (eo ad x y rest)) 0 0 5 [(0, .ref (ad 32)), (2, .int x2), (3, .int x3), (4, .int x4), (5, .int x5), (6, .int x6)] [.ref (ad 0)] := by
  unfold X5_search_b5 at h
  refine x_astore C (lv' := [(0, .ref (ad 32)), (2, .int x2), (3, .int x3), (4, .int x4), (5, .int x5), (6, .int x6), (7, .ref (ad 0))]) dX5_search_5 (by decide) rfl ?_
  refine x_iload_n C 1 dX5_search_7 rfl ?_
  refine x_iconst C (v := 3) dX5_search_8 (by decide) ?_
  obtain ⟨q9, hg9, h⟩ := ob h
  cases q9 with
  | zero =>
    replace h := (if_pos (c := (0 : Nat) = 0) rfl).symm.trans h
    refine x_cv0 (x_runS C (As := [.int x2, .int 3]) (rest := []) (c_X5_checkIndex_ok hg9) (cw_X5_search_X5_checkIndex_49 C) rfl (Nat.le_of_ble_eq_true rfl) dX5_search_9 ⟨Nat.zero_le _, Nat.zero_le _⟩) ?_
    refine x_aload C 6 dX5_search_12 rfl ?_
    refine x_iload_n C 2 dX5_search_14 rfl ?_
    obtain ⟨q15, hg15, h⟩ := ob h
    cases q15 with
    | zero =>
      replace h := (if_pos (c := (0 : Nat) = 0) rfl).symm.trans h
      refine x_cv0 (x_runS C (As := [.ref (ad 0), .int x3]) (rest := []) (c_X5_checkEntry_ok hg15) (cw_X5_search_X5_checkEntry_75 C) rfl (Nat.le_of_ble_eq_true rfl) dX5_search_15 ⟨Nat.zero_le _, Nat.zero_le _⟩) ?_
      refine x_iload C 4 dX5_search_18 rfl ?_
      refine x_aload_n C 0 dX5_search_20 rfl ?_
      refine x_get C (R' := RX5) (T := TX5) (N := 6) (ci := 5) 32 5 rfl rfl (by decide) rfl rfl hi_X5_search_5 lk_X5_search_45 dX5_search_21 ?_
      refine x_getN C (R' := RX1) (T := TX1) (N := 5) (ci := 1) 27 4 rfl rfl (by decide) rfl rfl hi_X5_search_1 (nf_mem 1 rfl) dX5_search_24 ?_
      obtain ⟨q27, hg27, h⟩ := ob h
      cases q27 with
      | zero =>
        replace h := (if_pos (c := (0 : Nat) = 0) rfl).symm.trans h
        refine x_cv0 (x_runS C (As := [.int x5, .int (S 27 4)]) (rest := []) (c_X5_checkIndex_ok hg27) (cw_X5_search_X5_checkIndex_49 C) rfl (Nat.le_of_ble_eq_true rfl) dX5_search_27 ⟨Nat.zero_le _, Nat.zero_le _⟩) ?_
        refine x_iload C 5 dX5_search_30 rfl ?_
        refine x_if_ge C (t := 45) dX5_search_32 (by decide) (fun c32 => ?_) (fun c32 => ?_)
        · replace h := (if_pos c32).symm.trans h
          refine x_iload C 3 dX5_search_45 rfl ?_
          refine x_iconst C (v := 0) dX5_search_47 (by decide) ?_
          refine x_iconst C (v := 2) dX5_search_48 (by decide) ?_
          obtain ⟨q49, hg49, h⟩ := ob h
          cases q49 with
          | zero =>
            replace h := (if_pos (c := (0 : Nat) = 0) rfl).symm.trans h
            refine x_cv0 (x_runS C (As := [.int x4, .int 0, .int 2]) (rest := []) (c_X5_checkArgument_ok hg49) (cw_X5_search_X5_checkArgument_53 C) rfl (Nat.le_of_ble_eq_true rfl) dX5_search_49 ⟨Nat.zero_le _, Nat.zero_le _⟩) ?_
            refine x_iconst C (v := 0) dX5_search_52 (by decide) ?_
            refine x_istore C (lv' := [(0, .ref (ad 32)), (2, .int x2), (3, .int x3), (4, .int x4), (5, .int x5), (6, .int x6), (7, .ref (ad 0)), (8, .int 0)]) dX5_search_53 (by decide) rfl ?_
            refine x_iload C 3 dX5_search_55 rfl ?_
            refine x_iconst C (v := 1) dX5_search_57 (by decide) ?_
            refine x_icmp_ne C (t := 75) dX5_search_58 (by decide) (fun c58 => ?_) (fun c58 => ?_)
            · replace h := (if_neg c58).symm.trans h
              refine x_iload_n C 2 dX5_search_75 rfl ?_
              exact X_X5_search_b76 C T h
            · replace h := (if_pos c58).symm.trans h
              refine x_aload C 6 dX5_search_61 rfl ?_
              refine x_iload_n C 2 dX5_search_63 rfl ?_
              refine x_iconst C (v := (-1)) dX5_search_64 (by decide) ?_
              refine x_aload_n C 0 dX5_search_65 rfl ?_
              refine x_get C (R' := RX5) (T := TX5) (N := 6) (ci := 5) 32 4 rfl rfl (by decide) rfl rfl hi_X5_search_5 lk_X5_search_38 dX5_search_66 ?_
              obtain ⟨v69, hg69, h⟩ := ob h
              refine x_ci0 (x_runV C (As := [.int x3, .int (-1), .ref (ad 24)]) (rest := []) (c_X4_childAfter hg69) (cw_X5_search_X4_childAfter_174 C) 0 rfl rfl rfl (Nat.le_of_ble_eq_true rfl) dX5_search_69 ⟨Nat.zero_le _, Nat.zero_le _⟩) ?_
              refine x_goto C (t := 76) dX5_search_72 (by decide) ?_
              exact X_X5_search_b76 C T h
          | succ q49 =>
            replace h := (if_neg (Nat.succ_ne_zero q49)).symm.trans h
            obtain rfl := Option.some.inj h
            exact x_cx C (T (Nat.succ_ne_zero _)) (x_runSX C (T (Nat.succ_ne_zero _)).2.2 (As := [.int x4, .int 0, .int 2]) (rest := []) (c_X5_checkArgument_th (T (Nat.succ_ne_zero _)).1 hg49) (cw_X5_search_X5_checkArgument_53_th C) rfl (Nat.le_of_ble_eq_true rfl) dX5_search_49 ⟨Nat.le_refl _, Nat.le_refl _⟩)
        · replace h := (if_neg c32).symm.trans h
          obtain rfl := Option.some.inj h
          exact x_throw C (T (Nat.succ_ne_zero _)) (kk := 0) rfl (st_mem 4 rfl) thr_X5_search_0_k thr_X5_search_0_i thr_X5_search_0_a thr_X5_search_0_b thr_X5_search_0_g (by decide +kernel) dX5_search_35 dX5_search_38 dX5_search_39 dX5_search_41 dX5_search_44 (lt_ble rfl) (Nat.le_of_ble_eq_true rfl) (Nat.le_refl _) (Nat.le_refl _)
      | succ q27 =>
        replace h := (if_neg (Nat.succ_ne_zero q27)).symm.trans h
        obtain rfl := Option.some.inj h
        exact x_cx C (T (Nat.succ_ne_zero _)) (x_runSX C (T (Nat.succ_ne_zero _)).2.2 (As := [.int x5, .int (S 27 4)]) (rest := []) (c_X5_checkIndex_th (T (Nat.succ_ne_zero _)).1 hg27) (cw_X5_search_X5_checkIndex_49_th C) rfl (Nat.le_of_ble_eq_true rfl) dX5_search_27 ⟨Nat.le_refl _, Nat.le_refl _⟩)
    | succ q15 =>
      replace h := (if_neg (Nat.succ_ne_zero q15)).symm.trans h
      obtain rfl := Option.some.inj h
      exact x_cx C (T (Nat.succ_ne_zero _)) (x_runSX C (T (Nat.succ_ne_zero _)).2.2 (As := [.ref (ad 0), .int x3]) (rest := []) (c_X5_checkEntry_th (T (Nat.succ_ne_zero _)).1 hg15) (cw_X5_search_X5_checkEntry_75_th C) rfl (Nat.le_of_ble_eq_true rfl) dX5_search_15 ⟨Nat.le_refl _, Nat.le_refl _⟩)
  | succ q9 =>
    replace h := (if_neg (Nat.succ_ne_zero q9)).symm.trans h
    obtain rfl := Option.some.inj h
    exact x_cx C (T (Nat.succ_ne_zero _)) (x_runSX C (T (Nat.succ_ne_zero _)).2.2 (As := [.int x2, .int 3]) (rest := []) (c_X5_checkIndex_th (T (Nat.succ_ne_zero _)).1 hg9) (cw_X5_search_X5_checkIndex_49_th C) rfl (Nat.le_of_ble_eq_true rfl) dX5_search_9 ⟨Nat.le_refl _, Nat.le_refl _⟩)
def X5_search (S : St) (x1 x2 x3 x4 x5 x6 : Int32) : Option (Nat × Int32 × St) :=
  (X5_treeOf S x1).bind fun q2 => if q2.1 = 0 then (bif q2.2 then ((X5_search_b5 (swS S) x2 x3 x4 x5 x6).map unz) else (X5_search_b5 S x2 x3 x4 x5 x6)) else some (q2.1, 0, S)
set_option maxHeartbeats 4000000 in
set_option maxRecDepth 100000 in
theorem X_X5_search {p : Program} {l : Launch} {e : Env} {s : State} {m : MethodId} {args : Array Value} {below : List Frame} {meth : Method} {c : Code} {D : va_G} {cI cZ cJ : ClassId} {ad : Nat → Nat} {rest w0 : va_W} {z : Nat × Int32 × St} (C : XC p (rm_X5_search z.1) s m args meth c cX5_search 11 (some .int) RX5 wsX5_search D (t3 cI cZ cJ)) (T : z.1 ≠ 0 → XT l s c w0) {S : St} {x1 x2 x3 x4 x5 x6 : Int32} (h : X5_search S x1 x2 x3 x4 x5 x6 = some z) : XW p l e (rm_X5_search z.1) s m args below meth c D w0 11 (QZ z.1 (MQ below (QI D (t3 cI cZ cJ) w0 (wE cI cZ ad z.2.2 (eo ad (ad 0) (ad 7) rest)) s.heap.size z.2.1) args s 0 0 (va_A w0 s.heap.size)) (fun q9 => vx_MQ below nQ (XX D (t3 cI cZ cJ) w0 (wE cI cZ ad z.2.2 (eo ad (ad 0) (ad 7) rest)) s.heap.size (exN q9)) args s 1 6 (va_A w0 s.heap.size))) (wE cI cZ ad S (eo ad (ad 0) (ad 7) rest)) 0 0 0 [(0, .ref (ad 32)), (1, .int x1), (2, .int x2), (3, .int x3), (4, .int x4), (5, .int x5), (6, .int x6)] [] := by
  unfold X5_search at h
  refine x_aload_n C 0 dX5_search_0 rfl ?_
  refine x_iload_n C 1 dX5_search_1 rfl ?_
  obtain ⟨⟨q2, b2⟩, hg2, h⟩ := ob h
  cases q2 with
  | zero =>
    replace h := (if_pos (c := (0 : Nat) = 0) rfl).symm.trans h
    refine x_cr0 (x_runV C (As := [.int x1]) (rest := []) (c_X5_treeOf_ok hg2) (cw_X5_search_X5_treeOf_71 C) 32 rfl rfl rfl (Nat.le_of_ble_eq_true rfl) dX5_search_2 ⟨Nat.zero_le _, Nat.zero_le _⟩) ?_
    refine x_locals (lv' := [(0, .ref (ad 32)), (2, .int x2), (3, .int x3), (4, .int x4), (5, .int x5), (6, .int x6)]) [0, 2, 3, 4, 5, 6] rfl ?_
    cases b2 with
    | false => exact X_X5_search_b5 (x := ad 0) (y := ad 7) C T h
    | true =>
      refine x_world (w' := wE cI cZ (swA ad) (swS S) (eo (swA ad) (ad 0) (ad 7) rest)) (wl_sw (D := D)).1 ((wl_sw (D := D)).2 _) ?_
      obtain ⟨z9, hz9, hz8⟩ := Option.map_eq_some_iff.mp h
      subst hz8
      exact x_mono (QZI.mono wl_unsw) (X_X5_search_b5 (ad := swA ad) (x := ad 0) (y := ad 7) (z := z9) C T hz9)
  | succ q2 =>
    replace h := (if_neg (Nat.succ_ne_zero q2)).symm.trans h
    obtain rfl := Option.some.inj h
    exact x_cx C (T (Nat.succ_ne_zero _)) (x_runVX C (T (Nat.succ_ne_zero _)).2.2 (As := [.int x1]) (rest := []) (c_X5_treeOf_th (T (Nat.succ_ne_zero _)).1 hg2) (cw_X5_search_X5_treeOf_71_th C) 32 rfl rfl rfl (Nat.le_of_ble_eq_true rfl) dX5_search_2 ⟨Nat.le_refl _, Nat.le_refl _⟩)
set_option maxRecDepth 100000 in
theorem c_X5_search_ok {l : Launch} {D : va_G} {cI cZ cJ : ClassId} {ad : Nat → Nat} {S : St} {rest : va_W} {x1 x2 x3 x4 x5 x6 : Int32} {v : Int32} {S' : St} (h : X5_search S x1 x2 x3 x4 x5 x6 = some (0, v, S')) : ∀ sz, Met l yX5_search wsX5_search (rm_X5_search 0) (PC D (t3 cI cZ cJ) [.ref (ad 32), .int x1, .int x2, .int x3, .int x4, .int x5, .int x6] (wE cI cZ ad S (eo ad (ad 0) (ad 7) rest)) sz) (QI D (t3 cI cZ cJ) (wE cI cZ ad S (eo ad (ad 0) (ad 7) rest)) (wE cI cZ ad S' (eo ad (ad 0) (ad 7) rest)) sz v) 0 0 (va_A (wE cI cZ ad S (eo ad (ad 0) (ad 7) rest)) sz) := by
  refine x_met (Qc := fun sz => QI D (t3 cI cZ cJ) (wE cI cZ ad S (eo ad (ad 0) (ad 7) rest)) (wE cI cZ ad S' (eo ad (ad 0) (ad 7) rest)) sz v) RX5 rfl (by decide) rfl (Nat.le_of_ble_eq_true rfl) (fun p e s m args below meth c C => ?_)
  exact X_X5_search (z := (0, v, S')) C (fun h9 => (h9 rfl).elim) h
set_option maxRecDepth 100000 in
theorem c_X5_search_th {l : Launch} {D : va_G} {cI cZ cJ : ClassId} {ad : Nat → Nat} {S : St} {rest : va_W} {x1 x2 x3 x4 x5 x6 : Int32} {v : Int32} {S' : St} {q : Nat} (hfl : l.stackTraces = false) (h : X5_search S x1 x2 x3 x4 x5 x6 = some ((q + 1), v, S')) : ∀ sz, vx_Met l yX5_search wsX5_search (rm_X5_search (q + 1)) (PX D (t3 cI cZ cJ) [.ref (ad 32), .int x1, .int x2, .int x3, .int x4, .int x5, .int x6] (wE cI cZ ad S (eo ad (ad 0) (ad 7) rest)) sz) nQ (XX D (t3 cI cZ cJ) (wE cI cZ ad S (eo ad (ad 0) (ad 7) rest)) (wE cI cZ ad S' (eo ad (ad 0) (ad 7) rest)) sz (exN q)) 1 6 (va_A (wE cI cZ ad S (eo ad (ad 0) (ad 7) rest)) sz) := by
  refine x_metX hfl (XCf := fun sz => XX D (t3 cI cZ cJ) (wE cI cZ ad S (eo ad (ad 0) (ad 7) rest)) (wE cI cZ ad S' (eo ad (ad 0) (ad 7) rest)) sz (exN q)) RX5 rfl (by decide) rfl (Nat.le_of_ble_eq_true rfl) (fun p e s m args below meth c C T => ?_)
  exact X_X5_search (z := (q + 1, v, S')) C (fun _ => T) h
