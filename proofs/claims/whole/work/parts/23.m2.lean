/-! EntryMastersModel.isThere(II)Z -/
abbrev rm_X6_isThere : Room := { frames := 6, cells := 0, slots := 0, locals := 136 }
theorem hi_X6_isThere_6 : ∀ z ∈ u_ws RX6 TX6 26, z ∈ wsX6_isThere := by decide +kernel
theorem lk_X6_isThere_80 : Cond.fieldLink RX6 80 RX6 "thrown" "I" ∈ wsX6_isThere := by decide +kernel
theorem cw_X6_isThere_X6_isHere_127 {p : Program} {s : State} {m : MethodId} {args : Array Value} {meth : Method} {c : Code} {D : va_G} {tys : List (ClassId × FieldType)} {R : Room} (C : XC p R s m args meth c cX6_isThere 3 (some .boolean) RX6 wsX6_isThere D tys) : CallW rm_X6_isThere s args RX6 RX6 127 yX6_isHere cX6_isHere 3 (some .boolean) wsX6_isHere rm_X6_isHere 0 0 2 := cwV 2 C.2.2.2.2.1 gX6_isThere_X6_isHere rfl rfl rfl (by decide +kernel) ⟨Nat.le_of_ble_eq_true rfl, Nat.le_of_ble_eq_true rfl⟩
theorem cw_X6_isThere_X6_isMaster_120 {p : Program} {s : State} {m : MethodId} {args : Array Value} {meth : Method} {c : Code} {D : va_G} {tys : List (ClassId × FieldType)} {R : Room} (C : XC p R s m args meth c cX6_isThere 3 (some .boolean) RX6 wsX6_isThere D tys) : CallB rm_X6_isThere s args RX6 120 yX6_isMaster cX6_isMaster 1 (some .boolean) wsX6_isMaster rm_X6_isMaster 0 0 1 ∧ (Cond.static yX6_isMaster).before args s = true := va_cwS 1 C.2.2.2.2.1 gX6_isThere_X6_isMaster rfl rfl rfl (by decide +kernel) ⟨Nat.le_of_ble_eq_true rfl, Nat.le_of_ble_eq_true rfl⟩
def X6_isThere_b22 (S : St) (s0 : Int32) : Option (Int32 × St) :=
  if s0 &&& 1 = s0 then (some (s0, S)) else none
set_option maxHeartbeats 4000000 in
set_option maxRecDepth 100000 in
theorem X_X6_isThere_b22 {p : Program} {l : Launch} {e : Env} {s : State} {m : MethodId} {args : Array Value} {below : List Frame} {meth : Method} {c : Code} {D : va_G} {cI cZ cJ : ClassId} {ad : Nat → Nat} {rest w0 : va_W} (C : XC p rm_X6_isThere s m args meth c cX6_isThere 3 (some .boolean) RX6 wsX6_isThere D (t3 cI cZ cJ)) {S : St} {s0 : Int32} {r : Int32 × St} (h : X6_isThere_b22 S s0 = some r) : XW p l e rm_X6_isThere s m args below meth c D w0 3 (MQ below (QI D (t3 cI cZ cJ) w0 (wM cI cZ ad r.2 rest) s.heap.size r.1) args s 0 0 (va_A w0 s.heap.size)) (wM cI cZ ad S rest) 0 0 22 [] [.int s0] := by
  unfold X6_isThere_b22 at h
  obtain ⟨g22, h⟩ := gd h
  obtain rfl := Option.some.inj h
  exact x_zret C g22 dX6_isThere_22
def X6_isThere_b16 (S : St) (x1 x2 : Int32) : Option (Int32 × St) :=
  (X6_isHere S x1 x2).bind fun q19 => X6_isThere_b22 q19.2 q19.1
set_option maxHeartbeats 4000000 in
set_option maxRecDepth 100000 in
theorem X_X6_isThere_b16 {p : Program} {l : Launch} {e : Env} {s : State} {m : MethodId} {args : Array Value} {below : List Frame} {meth : Method} {c : Code} {D : va_G} {cI cZ cJ : ClassId} {ad : Nat → Nat} {rest w0 : va_W} (C : XC p rm_X6_isThere s m args meth c cX6_isThere 3 (some .boolean) RX6 wsX6_isThere D (t3 cI cZ cJ)) {S : St} {x1 x2 : Int32} {r : Int32 × St} (h : X6_isThere_b16 S x1 x2 = some r) : XW p l e rm_X6_isThere s m args below meth c D w0 3 (MQ below (QI D (t3 cI cZ cJ) w0 (wM cI cZ ad r.2 rest) s.heap.size r.1) args s 0 0 (va_A w0 s.heap.size)) (wM cI cZ ad S rest) 0 0 16 [(0, .ref (ad 0)), (1, .int x1), (2, .int x2)] [] := by
  unfold X6_isThere_b16 at h
  refine x_aload_n C 0 dX6_isThere_16 rfl ?_
  refine x_iload_n C 1 dX6_isThere_17 rfl ?_
  refine x_iload_n C 2 dX6_isThere_18 rfl ?_
  obtain ⟨⟨v19, S19⟩, hg19, h⟩ := ob h
  refine x_ci0 (x_runV C (As := [.int x1, .int x2]) (rest := []) (c_X6_isHere hg19) (cw_X6_isThere_X6_isHere_127 C) 0 rfl rfl rfl (Nat.le_of_ble_eq_true rfl) dX6_isThere_19 ⟨Nat.zero_le _, Nat.zero_le _⟩) ?_
  refine x_locals (lv' := []) [] rfl ?_
  exact X_X6_isThere_b22 C h
def X6_isThere_b13 (S : St) (x1 x2 s0 : Int32) : Option (Int32 × St) :=
  X6_isThere_b16 (up S 0 (upd (S 0) 25 s0)) x1 x2
set_option maxHeartbeats 4000000 in
set_option maxRecDepth 100000 in
theorem X_X6_isThere_b13 {p : Program} {l : Launch} {e : Env} {s : State} {m : MethodId} {args : Array Value} {below : List Frame} {meth : Method} {c : Code} {D : va_G} {cI cZ cJ : ClassId} {ad : Nat → Nat} {rest w0 : va_W} (C : XC p rm_X6_isThere s m args meth c cX6_isThere 3 (some .boolean) RX6 wsX6_isThere D (t3 cI cZ cJ)) {S : St} {x1 x2 s0 : Int32} {r : Int32 × St} (h : X6_isThere_b13 S x1 x2 s0 = some r) : XW p l e rm_X6_isThere s m args below meth c D w0 3 (MQ below (QI D (t3 cI cZ cJ) w0 (wM cI cZ ad r.2 rest) s.heap.size r.1) args s 0 0 (va_A w0 s.heap.size)) (wM cI cZ ad S rest) 0 0 13 [(0, .ref (ad 0)), (1, .int x1), (2, .int x2)] [.int s0, .ref (ad 0)] := by
  unfold X6_isThere_b13 at h
  refine x_put C (R' := RX6) (T := TX6) (N := 26) (ci := 6) tyX6 tyX6_ok nmX6 0 25 rfl rfl (by decide) rfl rfl (lt_ble rfl) rfl hi_X6_isThere_6 lk_X6_isThere_80 dX6_isThere_13 (wM_f0_25 cI cZ ad S rest s0) ?_
  exact X_X6_isThere_b16 C h
def X6_isThere (S : St) (x1 x2 : Int32) : Option (Int32 × St) :=
  (X6_isMaster x1).bind fun v2 => if v2 = 0 then (X6_isThere_b13 S x1 x2 1) else (X6_isThere_b13 S x1 x2 0)
set_option maxHeartbeats 4000000 in
set_option maxRecDepth 100000 in
theorem X_X6_isThere {p : Program} {l : Launch} {e : Env} {s : State} {m : MethodId} {args : Array Value} {below : List Frame} {meth : Method} {c : Code} {D : va_G} {cI cZ cJ : ClassId} {ad : Nat → Nat} {rest w0 : va_W} (C : XC p rm_X6_isThere s m args meth c cX6_isThere 3 (some .boolean) RX6 wsX6_isThere D (t3 cI cZ cJ)) {S : St} {x1 x2 : Int32} {r : Int32 × St} (h : X6_isThere S x1 x2 = some r) : XW p l e rm_X6_isThere s m args below meth c D w0 3 (MQ below (QI D (t3 cI cZ cJ) w0 (wM cI cZ ad r.2 rest) s.heap.size r.1) args s 0 0 (va_A w0 s.heap.size)) (wM cI cZ ad S rest) 0 0 0 [(0, .ref (ad 0)), (1, .int x1), (2, .int x2)] [] := by
  unfold X6_isThere at h
  refine x_aload_n C 0 dX6_isThere_0 rfl ?_
  refine x_iload_n C 1 dX6_isThere_1 rfl ?_
  obtain ⟨v2, hg2, h⟩ := ob h
  refine x_ci0 (x_runS C (As := [.int x1]) (rest := [.ref (ad 0)]) (c_X6_isMaster hg2) (cw_X6_isThere_X6_isMaster_120 C) rfl (Nat.le_of_ble_eq_true rfl) dX6_isThere_2 ⟨Nat.zero_le _, Nat.zero_le _⟩) ?_
  refine x_if_eq C (t := 12) dX6_isThere_5 (by decide) (fun c5 => ?_) (fun c5 => ?_)
  · replace h := (if_pos c5).symm.trans h
    refine x_iconst C (v := 1) dX6_isThere_12 (by decide) ?_
    exact X_X6_isThere_b13 C h
  · replace h := (if_neg c5).symm.trans h
    refine x_iconst C (v := 0) dX6_isThere_8 (by decide) ?_
    refine x_goto C (t := 13) dX6_isThere_9 (by decide) ?_
    exact X_X6_isThere_b13 C h
set_option maxRecDepth 100000 in
theorem c_X6_isThere {l : Launch} {D : va_G} {cI cZ cJ : ClassId} {ad : Nat → Nat} {S : St} {rest : va_W} {x1 x2 : Int32} {r : Int32 × St} (h : X6_isThere S x1 x2 = some r) : ∀ sz, Met l yX6_isThere wsX6_isThere rm_X6_isThere (PC D (t3 cI cZ cJ) [.ref (ad 0), .int x1, .int x2] (wM cI cZ ad S rest) sz) (QI D (t3 cI cZ cJ) (wM cI cZ ad S rest) (wM cI cZ ad r.2 rest) sz r.1) 0 0 (va_A (wM cI cZ ad S rest) sz) := by
  refine x_met (Qc := fun sz => QI D (t3 cI cZ cJ) (wM cI cZ ad S rest) (wM cI cZ ad r.2 rest) sz r.1) RX6 rfl (by decide) rfl (Nat.le_of_ble_eq_true rfl) (fun p e s m args below meth c C => ?_)
  exact X_X6_isThere C h
/-! EntryMastersModel.asks(II)Z -/
abbrev rm_X6_asks : Room := { frames := 6, cells := 0, slots := 0, locals := 136 }
theorem hi_X6_asks_6 : ∀ z ∈ u_ws RX6 TX6 26, z ∈ wsX6_asks := by decide +kernel
theorem lk_X6_asks_80 : Cond.fieldLink RX6 80 RX6 "thrown" "I" ∈ wsX6_asks := by decide +kernel
theorem cw_X6_asks_X6_isHere_127 {p : Program} {s : State} {m : MethodId} {args : Array Value} {meth : Method} {c : Code} {D : va_G} {tys : List (ClassId × FieldType)} {R : Room} (C : XC p R s m args meth c cX6_asks 3 (some .boolean) RX6 wsX6_asks D tys) : CallW rm_X6_asks s args RX6 RX6 127 yX6_isHere cX6_isHere 3 (some .boolean) wsX6_isHere rm_X6_isHere 0 0 2 := cwV 2 C.2.2.2.2.1 gX6_asks_X6_isHere rfl rfl rfl (by decide +kernel) ⟨Nat.le_of_ble_eq_true rfl, Nat.le_of_ble_eq_true rfl⟩
def X6_asks_b30 (S : St) (s0 : Int32) : Option (Int32 × St) :=
  if s0 &&& 1 = s0 then (some (s0, S)) else none
set_option maxHeartbeats 4000000 in
set_option maxRecDepth 100000 in
theorem X_X6_asks_b30 {p : Program} {l : Launch} {e : Env} {s : State} {m : MethodId} {args : Array Value} {below : List Frame} {meth : Method} {c : Code} {D : va_G} {cI cZ cJ : ClassId} {ad : Nat → Nat} {rest w0 : va_W} (C : XC p rm_X6_asks s m args meth c cX6_asks 3 (some .boolean) RX6 wsX6_asks D (t3 cI cZ cJ)) {S : St} {s0 : Int32} {r : Int32 × St} (h : X6_asks_b30 S s0 = some r) : XW p l e rm_X6_asks s m args below meth c D w0 3 (MQ below (QI D (t3 cI cZ cJ) w0 (wM cI cZ ad r.2 rest) s.heap.size r.1) args s 0 0 (va_A w0 s.heap.size)) (wM cI cZ ad S rest) 0 0 30 [] [.int s0] := by
  unfold X6_asks_b30 at h
  obtain ⟨g30, h⟩ := gd h
  obtain rfl := Option.some.inj h
  exact x_zret C g30 dX6_asks_30
def X6_asks_b18 (S : St) : Option (Int32 × St) :=
  if (S 0 25) = 0 then (X6_asks_b30 S 1) else (X6_asks_b30 S 0)
set_option maxHeartbeats 4000000 in
set_option maxRecDepth 100000 in
theorem X_X6_asks_b18 {p : Program} {l : Launch} {e : Env} {s : State} {m : MethodId} {args : Array Value} {below : List Frame} {meth : Method} {c : Code} {D : va_G} {cI cZ cJ : ClassId} {ad : Nat → Nat} {rest w0 : va_W} (C : XC p rm_X6_asks s m args meth c cX6_asks 3 (some .boolean) RX6 wsX6_asks D (t3 cI cZ cJ)) {S : St} {r : Int32 × St} (h : X6_asks_b18 S = some r) : XW p l e rm_X6_asks s m args below meth c D w0 3 (MQ below (QI D (t3 cI cZ cJ) w0 (wM cI cZ ad r.2 rest) s.heap.size r.1) args s 0 0 (va_A w0 s.heap.size)) (wM cI cZ ad S rest) 0 0 18 [(0, .ref (ad 0))] [] := by
  unfold X6_asks_b18 at h
  refine x_aload_n C 0 dX6_asks_18 rfl ?_
  refine x_get C (R' := RX6) (T := TX6) (N := 26) (ci := 6) 0 25 rfl rfl (by decide) rfl rfl hi_X6_asks_6 lk_X6_asks_80 dX6_asks_19 ?_
  refine x_if_ne C (t := 29) dX6_asks_22 (by decide) (fun c22 => ?_) (fun c22 => ?_)
  · replace h := (if_neg c22).symm.trans h
    refine x_iconst C (v := 0) dX6_asks_29 (by decide) ?_
    refine x_locals (lv' := []) [] rfl ?_
    exact X_X6_asks_b30 C h
  · replace h := (if_pos c22).symm.trans h
    refine x_iconst C (v := 1) dX6_asks_25 (by decide) ?_
    refine x_goto C (t := 30) dX6_asks_26 (by decide) ?_
    refine x_locals (lv' := []) [] rfl ?_
    exact X_X6_asks_b30 C h
def X6_asks_b15 (S : St) (s0 : Int32) : Option (Int32 × St) :=
  X6_asks_b18 (up S 0 (upd (S 0) 25 s0))
set_option maxHeartbeats 4000000 in
set_option maxRecDepth 100000 in
theorem X_X6_asks_b15 {p : Program} {l : Launch} {e : Env} {s : State} {m : MethodId} {args : Array Value} {below : List Frame} {meth : Method} {c : Code} {D : va_G} {cI cZ cJ : ClassId} {ad : Nat → Nat} {rest w0 : va_W} (C : XC p rm_X6_asks s m args meth c cX6_asks 3 (some .boolean) RX6 wsX6_asks D (t3 cI cZ cJ)) {S : St} {s0 : Int32} {r : Int32 × St} (h : X6_asks_b15 S s0 = some r) : XW p l e rm_X6_asks s m args below meth c D w0 3 (MQ below (QI D (t3 cI cZ cJ) w0 (wM cI cZ ad r.2 rest) s.heap.size r.1) args s 0 0 (va_A w0 s.heap.size)) (wM cI cZ ad S rest) 0 0 15 [(0, .ref (ad 0))] [.int s0, .ref (ad 0)] := by
  unfold X6_asks_b15 at h
  refine x_put C (R' := RX6) (T := TX6) (N := 26) (ci := 6) tyX6 tyX6_ok nmX6 0 25 rfl rfl (by decide) rfl rfl (lt_ble rfl) rfl hi_X6_asks_6 lk_X6_asks_80 dX6_asks_15 (wM_f0_25 cI cZ ad S rest s0) ?_
  exact X_X6_asks_b18 C h
def X6_asks_b7 (S : St) (s0 : Int32) : Option (Int32 × St) :=
  if s0 = 0 then (X6_asks_b15 S 1) else (X6_asks_b15 S 0)
set_option maxHeartbeats 4000000 in
set_option maxRecDepth 100000 in
theorem X_X6_asks_b7 {p : Program} {l : Launch} {e : Env} {s : State} {m : MethodId} {args : Array Value} {below : List Frame} {meth : Method} {c : Code} {D : va_G} {cI cZ cJ : ClassId} {ad : Nat → Nat} {rest w0 : va_W} (C : XC p rm_X6_asks s m args meth c cX6_asks 3 (some .boolean) RX6 wsX6_asks D (t3 cI cZ cJ)) {S : St} {s0 : Int32} {r : Int32 × St} (h : X6_asks_b7 S s0 = some r) : XW p l e rm_X6_asks s m args below meth c D w0 3 (MQ below (QI D (t3 cI cZ cJ) w0 (wM cI cZ ad r.2 rest) s.heap.size r.1) args s 0 0 (va_A w0 s.heap.size)) (wM cI cZ ad S rest) 0 0 7 [(0, .ref (ad 0))] [.int s0, .ref (ad 0)] := by
  unfold X6_asks_b7 at h
  refine x_if_eq C (t := 14) dX6_asks_7 (by decide) (fun c7 => ?_) (fun c7 => ?_)
  · replace h := (if_pos c7).symm.trans h
    refine x_iconst C (v := 1) dX6_asks_14 (by decide) ?_
    exact X_X6_asks_b15 C h
  · replace h := (if_neg c7).symm.trans h
    refine x_iconst C (v := 0) dX6_asks_10 (by decide) ?_
    refine x_goto C (t := 15) dX6_asks_11 (by decide) ?_
    exact X_X6_asks_b15 C h
def X6_asks (S : St) (x1 x2 : Int32) : Option (Int32 × St) :=
  (X6_isHere S x1 x2).bind fun q4 => X6_asks_b7 q4.2 q4.1
set_option maxHeartbeats 4000000 in
set_option maxRecDepth 100000 in
theorem X_X6_asks {p : Program} {l : Launch} {e : Env} {s : State} {m : MethodId} {args : Array Value} {below : List Frame} {meth : Method} {c : Code} {D : va_G} {cI cZ cJ : ClassId} {ad : Nat → Nat} {rest w0 : va_W} (C : XC p rm_X6_asks s m args meth c cX6_asks 3 (some .boolean) RX6 wsX6_asks D (t3 cI cZ cJ)) {S : St} {x1 x2 : Int32} {r : Int32 × St} (h : X6_asks S x1 x2 = some r) : XW p l e rm_X6_asks s m args below meth c D w0 3 (MQ below (QI D (t3 cI cZ cJ) w0 (wM cI cZ ad r.2 rest) s.heap.size r.1) args s 0 0 (va_A w0 s.heap.size)) (wM cI cZ ad S rest) 0 0 0 [(0, .ref (ad 0)), (1, .int x1), (2, .int x2)] [] := by
  unfold X6_asks at h
  refine x_aload_n C 0 dX6_asks_0 rfl ?_
  refine x_aload_n C 0 dX6_asks_1 rfl ?_
  refine x_iload_n C 1 dX6_asks_2 rfl ?_
  refine x_iload_n C 2 dX6_asks_3 rfl ?_
  obtain ⟨⟨v4, S4⟩, hg4, h⟩ := ob h
  refine x_ci0 (x_runV C (As := [.int x1, .int x2]) (rest := [.ref (ad 0)]) (c_X6_isHere hg4) (cw_X6_asks_X6_isHere_127 C) 0 rfl rfl rfl (Nat.le_of_ble_eq_true rfl) dX6_asks_4 ⟨Nat.zero_le _, Nat.zero_le _⟩) ?_
  refine x_locals (lv' := [(0, .ref (ad 0))]) [0] rfl ?_
  exact X_X6_asks_b7 C h
set_option maxRecDepth 100000 in
theorem c_X6_asks {l : Launch} {D : va_G} {cI cZ cJ : ClassId} {ad : Nat → Nat} {S : St} {rest : va_W} {x1 x2 : Int32} {r : Int32 × St} (h : X6_asks S x1 x2 = some r) : ∀ sz, Met l yX6_asks wsX6_asks rm_X6_asks (PC D (t3 cI cZ cJ) [.ref (ad 0), .int x1, .int x2] (wM cI cZ ad S rest) sz) (QI D (t3 cI cZ cJ) (wM cI cZ ad S rest) (wM cI cZ ad r.2 rest) sz r.1) 0 0 (va_A (wM cI cZ ad S rest) sz) := by
  refine x_met (Qc := fun sz => QI D (t3 cI cZ cJ) (wM cI cZ ad S rest) (wM cI cZ ad r.2 rest) sz r.1) RX6 rfl (by decide) rfl (Nat.le_of_ble_eq_true rfl) (fun p e s m args below meth c C => ?_)
  exact X_X6_asks C h
/-! EntryMastersModel.parentOf(II)I -/
abbrev rm_X6_parentOf : Room := { frames := 7, cells := 0, slots := 0, locals := 158 }
theorem hi_X6_parentOf_6 : ∀ z ∈ u_ws RX6 TX6 26, z ∈ wsX6_parentOf := by decide +kernel
theorem lk_X6_parentOf_65 : Cond.fieldLink RX6 65 RX6 "parent" "[I" ∈ wsX6_parentOf := by decide +kernel
theorem cw_X6_parentOf_X6_asks_140 {p : Program} {s : State} {m : MethodId} {args : Array Value} {meth : Method} {c : Code} {D : va_G} {tys : List (ClassId × FieldType)} {R : Room} (C : XC p R s m args meth c cX6_parentOf 3 (some .int) RX6 wsX6_parentOf D tys) : CallW rm_X6_parentOf s args RX6 RX6 140 yX6_asks cX6_asks 3 (some .boolean) wsX6_asks rm_X6_asks 0 0 2 := cwV 2 C.2.2.2.2.1 gX6_parentOf_X6_asks rfl rfl rfl (by decide +kernel) ⟨Nat.le_of_ble_eq_true rfl, Nat.le_of_ble_eq_true rfl⟩
def X6_parentOf_b19 (S : St) (s0 : Int32) : Option (Int32 × St) :=
  some (s0, S)
set_option maxHeartbeats 4000000 in
set_option maxRecDepth 100000 in
theorem X_X6_parentOf_b19 {p : Program} {l : Launch} {e : Env} {s : State} {m : MethodId} {args : Array Value} {below : List Frame} {meth : Method} {c : Code} {D : va_G} {cI cZ cJ : ClassId} {ad : Nat → Nat} {rest w0 : va_W} (C : XC p rm_X6_parentOf s m args meth c cX6_parentOf 3 (some .int) RX6 wsX6_parentOf D (t3 cI cZ cJ)) {S : St} {s0 : Int32} {r : Int32 × St} (h : X6_parentOf_b19 S s0 = some r) : XW p l e rm_X6_parentOf s m args below meth c D w0 3 (MQ below (QI D (t3 cI cZ cJ) w0 (wM cI cZ ad r.2 rest) s.heap.size r.1) args s 0 0 (va_A w0 s.heap.size)) (wM cI cZ ad S rest) 0 0 19 [] [.int s0] := by
  unfold X6_parentOf_b19 at h
  obtain rfl := Option.some.inj h
  exact x_iret C dX6_parentOf_19
def X6_parentOf_b6 (S : St) (x2 s0 : Int32) : Option (Int32 × St) :=
  if s0 = 0 then (X6_parentOf_b19 S 0) else (if inB x2 42 then (X6_parentOf_b19 S (S 19 x2.toNatClampNeg)) else none)
set_option maxHeartbeats 4000000 in
set_option maxRecDepth 100000 in
theorem X_X6_parentOf_b6 {p : Program} {l : Launch} {e : Env} {s : State} {m : MethodId} {args : Array Value} {below : List Frame} {meth : Method} {c : Code} {D : va_G} {cI cZ cJ : ClassId} {ad : Nat → Nat} {rest w0 : va_W} (C : XC p rm_X6_parentOf s m args meth c cX6_parentOf 3 (some .int) RX6 wsX6_parentOf D (t3 cI cZ cJ)) {S : St} {x2 s0 : Int32} {r : Int32 × St} (h : X6_parentOf_b6 S x2 s0 = some r) : XW p l e rm_X6_parentOf s m args below meth c D w0 3 (MQ below (QI D (t3 cI cZ cJ) w0 (wM cI cZ ad r.2 rest) s.heap.size r.1) args s 0 0 (va_A w0 s.heap.size)) (wM cI cZ ad S rest) 0 0 6 [(0, .ref (ad 0)), (2, .int x2)] [.int s0] := by
  unfold X6_parentOf_b6 at h
  refine x_if_eq C (t := 18) dX6_parentOf_6 (by decide) (fun c6 => ?_) (fun c6 => ?_)
  · replace h := (if_pos c6).symm.trans h
    refine x_iconst C (v := 0) dX6_parentOf_18 (by decide) ?_
    refine x_locals (lv' := []) [] rfl ?_
    exact X_X6_parentOf_b19 C h
  · replace h := (if_neg c6).symm.trans h
    refine x_aload_n C 0 dX6_parentOf_9 rfl ?_
    refine x_get C (R' := RX6) (T := TX6) (N := 26) (ci := 6) 0 20 rfl rfl (by decide) rfl rfl hi_X6_parentOf_6 lk_X6_parentOf_65 dX6_parentOf_10 ?_
    refine x_iload_n C 1 dX6_parentOf_13 rfl ?_
    obtain ⟨g14, h⟩ := gdB h
    refine x_iald C 19 rfl g14 dX6_parentOf_14 ?_
    refine x_goto C (t := 19) dX6_parentOf_15 (by decide) ?_
    refine x_locals (lv' := []) [] rfl ?_
    exact X_X6_parentOf_b19 C h
def X6_parentOf (S : St) (x1 x2 : Int32) : Option (Int32 × St) :=
  (X6_asks S x1 x2).bind fun q3 => X6_parentOf_b6 q3.2 x2 q3.1
set_option maxHeartbeats 4000000 in
set_option maxRecDepth 100000 in
theorem X_X6_parentOf {p : Program} {l : Launch} {e : Env} {s : State} {m : MethodId} {args : Array Value} {below : List Frame} {meth : Method} {c : Code} {D : va_G} {cI cZ cJ : ClassId} {ad : Nat → Nat} {rest w0 : va_W} (C : XC p rm_X6_parentOf s m args meth c cX6_parentOf 3 (some .int) RX6 wsX6_parentOf D (t3 cI cZ cJ)) {S : St} {x1 x2 : Int32} {r : Int32 × St} (h : X6_parentOf S x1 x2 = some r) : XW p l e rm_X6_parentOf s m args below meth c D w0 3 (MQ below (QI D (t3 cI cZ cJ) w0 (wM cI cZ ad r.2 rest) s.heap.size r.1) args s 0 0 (va_A w0 s.heap.size)) (wM cI cZ ad S rest) 0 0 0 [(0, .ref (ad 0)), (1, .int x1), (2, .int x2)] [] := by
  unfold X6_parentOf at h
  refine x_aload_n C 0 dX6_parentOf_0 rfl ?_
  refine x_iload_n C 1 dX6_parentOf_1 rfl ?_
  refine x_iload_n C 2 dX6_parentOf_2 rfl ?_
  obtain ⟨⟨v3, S3⟩, hg3, h⟩ := ob h
  refine x_ci0 (x_runV C (As := [.int x1, .int x2]) (rest := []) (c_X6_asks hg3) (cw_X6_parentOf_X6_asks_140 C) 0 rfl rfl rfl (Nat.le_of_ble_eq_true rfl) dX6_parentOf_3 ⟨Nat.zero_le _, Nat.zero_le _⟩) ?_
  refine x_locals (lv' := [(0, .ref (ad 0)), (2, .int x2)]) [0, 2] rfl ?_
  exact X_X6_parentOf_b6 C h
set_option maxRecDepth 100000 in
theorem c_X6_parentOf {l : Launch} {D : va_G} {cI cZ cJ : ClassId} {ad : Nat → Nat} {S : St} {rest : va_W} {x1 x2 : Int32} {r : Int32 × St} (h : X6_parentOf S x1 x2 = some r) : ∀ sz, Met l yX6_parentOf wsX6_parentOf rm_X6_parentOf (PC D (t3 cI cZ cJ) [.ref (ad 0), .int x1, .int x2] (wM cI cZ ad S rest) sz) (QI D (t3 cI cZ cJ) (wM cI cZ ad S rest) (wM cI cZ ad r.2 rest) sz r.1) 0 0 (va_A (wM cI cZ ad S rest) sz) := by
  refine x_met (Qc := fun sz => QI D (t3 cI cZ cJ) (wM cI cZ ad S rest) (wM cI cZ ad r.2 rest) sz r.1) RX6 rfl (by decide) rfl (Nat.le_of_ble_eq_true rfl) (fun p e s m args below meth c C => ?_)
  exact X_X6_parentOf C h
/-! EntryMastersModel.labelOf(II)I -/
abbrev rm_X6_labelOf : Room := { frames := 7, cells := 0, slots := 0, locals := 158 }
theorem hi_X6_labelOf_6 : ∀ z ∈ u_ws RX6 TX6 26, z ∈ wsX6_labelOf := by decide +kernel
theorem lk_X6_labelOf_68 : Cond.fieldLink RX6 68 RX6 "label" "[I" ∈ wsX6_labelOf := by decide +kernel
theorem cw_X6_labelOf_X6_asks_140 {p : Program} {s : State} {m : MethodId} {args : Array Value} {meth : Method} {c : Code} {D : va_G} {tys : List (ClassId × FieldType)} {R : Room} (C : XC p R s m args meth c cX6_labelOf 3 (some .int) RX6 wsX6_labelOf D tys) : CallW rm_X6_labelOf s args RX6 RX6 140 yX6_asks cX6_asks 3 (some .boolean) wsX6_asks rm_X6_asks 0 0 2 := cwV 2 C.2.2.2.2.1 gX6_labelOf_X6_asks rfl rfl rfl (by decide +kernel) ⟨Nat.le_of_ble_eq_true rfl, Nat.le_of_ble_eq_true rfl⟩
def X6_labelOf_b19 (S : St) (s0 : Int32) : Option (Int32 × St) :=
  some (s0, S)
set_option maxHeartbeats 4000000 in
set_option maxRecDepth 100000 in
theorem X_X6_labelOf_b19 {p : Program} {l : Launch} {e : Env} {s : State} {m : MethodId} {args : Array Value} {below : List Frame} {meth : Method} {c : Code} {D : va_G} {cI cZ cJ : ClassId} {ad : Nat → Nat} {rest w0 : va_W} (C : XC p rm_X6_labelOf s m args meth c cX6_labelOf 3 (some .int) RX6 wsX6_labelOf D (t3 cI cZ cJ)) {S : St} {s0 : Int32} {r : Int32 × St} (h : X6_labelOf_b19 S s0 = some r) : XW p l e rm_X6_labelOf s m args below meth c D w0 3 (MQ below (QI D (t3 cI cZ cJ) w0 (wM cI cZ ad r.2 rest) s.heap.size r.1) args s 0 0 (va_A w0 s.heap.size)) (wM cI cZ ad S rest) 0 0 19 [] [.int s0] := by
  unfold X6_labelOf_b19 at h
  obtain rfl := Option.some.inj h
  exact x_iret C dX6_labelOf_19
def X6_labelOf_b6 (S : St) (x2 s0 : Int32) : Option (Int32 × St) :=
  if s0 = 0 then (X6_labelOf_b19 S 0) else (if inB x2 42 then (X6_labelOf_b19 S (S 20 x2.toNatClampNeg)) else none)
set_option maxHeartbeats 4000000 in
set_option maxRecDepth 100000 in
theorem X_X6_labelOf_b6 {p : Program} {l : Launch} {e : Env} {s : State} {m : MethodId} {args : Array Value} {below : List Frame} {meth : Method} {c : Code} {D : va_G} {cI cZ cJ : ClassId} {ad : Nat → Nat} {rest w0 : va_W} (C : XC p rm_X6_labelOf s m args meth c cX6_labelOf 3 (some .int) RX6 wsX6_labelOf D (t3 cI cZ cJ)) {S : St} {x2 s0 : Int32} {r : Int32 × St} (h : X6_labelOf_b6 S x2 s0 = some r) : XW p l e rm_X6_labelOf s m args below meth c D w0 3 (MQ below (QI D (t3 cI cZ cJ) w0 (wM cI cZ ad r.2 rest) s.heap.size r.1) args s 0 0 (va_A w0 s.heap.size)) (wM cI cZ ad S rest) 0 0 6 [(0, .ref (ad 0)), (2, .int x2)] [.int s0] := by
  unfold X6_labelOf_b6 at h
  refine x_if_eq C (t := 18) dX6_labelOf_6 (by decide) (fun c6 => ?_) (fun c6 => ?_)
  · replace h := (if_pos c6).symm.trans h
    refine x_iconst C (v := 0) dX6_labelOf_18 (by decide) ?_
    refine x_locals (lv' := []) [] rfl ?_
    exact X_X6_labelOf_b19 C h
  · replace h := (if_neg c6).symm.trans h
    refine x_aload_n C 0 dX6_labelOf_9 rfl ?_
    refine x_get C (R' := RX6) (T := TX6) (N := 26) (ci := 6) 0 21 rfl rfl (by decide) rfl rfl hi_X6_labelOf_6 lk_X6_labelOf_68 dX6_labelOf_10 ?_
    refine x_iload_n C 1 dX6_labelOf_13 rfl ?_
    obtain ⟨g14, h⟩ := gdB h
    refine x_iald C 20 rfl g14 dX6_labelOf_14 ?_
    refine x_goto C (t := 19) dX6_labelOf_15 (by decide) ?_
    refine x_locals (lv' := []) [] rfl ?_
    exact X_X6_labelOf_b19 C h
def X6_labelOf (S : St) (x1 x2 : Int32) : Option (Int32 × St) :=
  (X6_asks S x1 x2).bind fun q3 => X6_labelOf_b6 q3.2 x2 q3.1
set_option maxHeartbeats 4000000 in
set_option maxRecDepth 100000 in
theorem X_X6_labelOf {p : Program} {l : Launch} {e : Env} {s : State} {m : MethodId} {args : Array Value} {below : List Frame} {meth : Method} {c : Code} {D : va_G} {cI cZ cJ : ClassId} {ad : Nat → Nat} {rest w0 : va_W} (C : XC p rm_X6_labelOf s m args meth c cX6_labelOf 3 (some .int) RX6 wsX6_labelOf D (t3 cI cZ cJ)) {S : St} {x1 x2 : Int32} {r : Int32 × St} (h : X6_labelOf S x1 x2 = some r) : XW p l e rm_X6_labelOf s m args below meth c D w0 3 (MQ below (QI D (t3 cI cZ cJ) w0 (wM cI cZ ad r.2 rest) s.heap.size r.1) args s 0 0 (va_A w0 s.heap.size)) (wM cI cZ ad S rest) 0 0 0 [(0, .ref (ad 0)), (1, .int x1), (2, .int x2)] [] := by
  unfold X6_labelOf at h
  refine x_aload_n C 0 dX6_labelOf_0 rfl ?_
  refine x_iload_n C 1 dX6_labelOf_1 rfl ?_
  refine x_iload_n C 2 dX6_labelOf_2 rfl ?_
  obtain ⟨⟨v3, S3⟩, hg3, h⟩ := ob h
  refine x_ci0 (x_runV C (As := [.int x1, .int x2]) (rest := []) (c_X6_asks hg3) (cw_X6_labelOf_X6_asks_140 C) 0 rfl rfl rfl (Nat.le_of_ble_eq_true rfl) dX6_labelOf_3 ⟨Nat.zero_le _, Nat.zero_le _⟩) ?_
  refine x_locals (lv' := [(0, .ref (ad 0)), (2, .int x2)]) [0, 2] rfl ?_
  exact X_X6_labelOf_b6 C h
set_option maxRecDepth 100000 in
theorem c_X6_labelOf {l : Launch} {D : va_G} {cI cZ cJ : ClassId} {ad : Nat → Nat} {S : St} {rest : va_W} {x1 x2 : Int32} {r : Int32 × St} (h : X6_labelOf S x1 x2 = some r) : ∀ sz, Met l yX6_labelOf wsX6_labelOf rm_X6_labelOf (PC D (t3 cI cZ cJ) [.ref (ad 0), .int x1, .int x2] (wM cI cZ ad S rest) sz) (QI D (t3 cI cZ cJ) (wM cI cZ ad S rest) (wM cI cZ ad r.2 rest) sz r.1) 0 0 (va_A (wM cI cZ ad S rest) sz) := by
  refine x_met (Qc := fun sz => QI D (t3 cI cZ cJ) (wM cI cZ ad S rest) (wM cI cZ ad r.2 rest) sz r.1) RX6 rfl (by decide) rfl (Nat.le_of_ble_eq_true rfl) (fun p e s m args below meth c C => ?_)
  exact X_X6_labelOf C h
/-! EntryMastersModel.value(III)I -/
abbrev rm_X6_value : Room := { frames := 6, cells := 0, slots := 0, locals := 136 }
theorem hi_X6_value_6 : ∀ z ∈ u_ws RX6 TX6 26, z ∈ wsX6_value := by decide +kernel
theorem lk_X6_value_74 : Cond.fieldLink RX6 74 RX6 "value" "[I" ∈ wsX6_value := by decide +kernel
theorem lk_X6_value_80 : Cond.fieldLink RX6 80 RX6 "thrown" "I" ∈ wsX6_value := by decide +kernel
theorem cw_X6_value_X6_isHere_127 {p : Program} {s : State} {m : MethodId} {args : Array Value} {meth : Method} {c : Code} {D : va_G} {tys : List (ClassId × FieldType)} {R : Room} (C : XC p R s m args meth c cX6_value 4 (some .int) RX6 wsX6_value D tys) : CallW rm_X6_value s args RX6 RX6 127 yX6_isHere cX6_isHere 3 (some .boolean) wsX6_isHere rm_X6_isHere 0 0 2 := cwV 2 C.2.2.2.2.1 gX6_value_X6_isHere rfl rfl rfl (by decide +kernel) ⟨Nat.le_of_ble_eq_true rfl, Nat.le_of_ble_eq_true rfl⟩
theorem cw_X6_value_X6_isIn_84 {p : Program} {s : State} {m : MethodId} {args : Array Value} {meth : Method} {c : Code} {D : va_G} {tys : List (ClassId × FieldType)} {R : Room} (C : XC p R s m args meth c cX6_value 4 (some .int) RX6 wsX6_value D tys) : CallB rm_X6_value s args RX6 84 yX6_isIn cX6_isIn 3 (some .boolean) wsX6_isIn rm_X6_isIn 0 0 3 ∧ (Cond.static yX6_isIn).before args s = true := va_cwS 3 C.2.2.2.2.1 gX6_value_X6_isIn rfl rfl rfl (by decide +kernel) ⟨Nat.le_of_ble_eq_true rfl, Nat.le_of_ble_eq_true rfl⟩
def X6_value_b48 (S : St) (s0 : Int32) : Option (Int32 × St) :=
  some (s0, S)
set_option maxHeartbeats 4000000 in
set_option maxRecDepth 100000 in
theorem X_X6_value_b48 {p : Program} {l : Launch} {e : Env} {s : State} {m : MethodId} {args : Array Value} {below : List Frame} {meth : Method} {c : Code} {D : va_G} {cI cZ cJ : ClassId} {ad : Nat → Nat} {rest w0 : va_W} (C : XC p rm_X6_value s m args meth c cX6_value 4 (some .int) RX6 wsX6_value D (t3 cI cZ cJ)) {S : St} {s0 : Int32} {r : Int32 × St} (h : X6_value_b48 S s0 = some r) : XW p l e rm_X6_value s m args below meth c D w0 4 (MQ below (QI D (t3 cI cZ cJ) w0 (wM cI cZ ad r.2 rest) s.heap.size r.1) args s 0 0 (va_A w0 s.heap.size)) (wM cI cZ ad S rest) 0 0 48 [] [.int s0] := by
  unfold X6_value_b48 at h
  obtain rfl := Option.some.inj h
  exact x_iret C dX6_value_48
def X6_value_b27 (S : St) (x2 x3 : Int32) : Option (Int32 × St) :=
  if (S 0 25) ≤ 0 then (if inB ((4 * x2) + x3) 168 then (X6_value_b48 S (S 22 ((4 * x2) + x3).toNatClampNeg)) else none) else (X6_value_b48 S 0)
set_option maxHeartbeats 4000000 in
set_option maxRecDepth 100000 in
theorem X_X6_value_b27 {p : Program} {l : Launch} {e : Env} {s : State} {m : MethodId} {args : Array Value} {below : List Frame} {meth : Method} {c : Code} {D : va_G} {cI cZ cJ : ClassId} {ad : Nat → Nat} {rest w0 : va_W} (C : XC p rm_X6_value s m args meth c cX6_value 4 (some .int) RX6 wsX6_value D (t3 cI cZ cJ)) {S : St} {x2 x3 : Int32} {r : Int32 × St} (h : X6_value_b27 S x2 x3 = some r) : XW p l e rm_X6_value s m args below meth c D w0 4 (MQ below (QI D (t3 cI cZ cJ) w0 (wM cI cZ ad r.2 rest) s.heap.size r.1) args s 0 0 (va_A w0 s.heap.size)) (wM cI cZ ad S rest) 0 0 27 [(0, .ref (ad 0)), (2, .int x2), (3, .int x3)] [] := by
  unfold X6_value_b27 at h
  refine x_aload_n C 0 dX6_value_27 rfl ?_
  refine x_get C (R' := RX6) (T := TX6) (N := 26) (ci := 6) 0 25 rfl rfl (by decide) rfl rfl hi_X6_value_6 lk_X6_value_80 dX6_value_28 ?_
  refine x_if_le C (t := 38) dX6_value_31 (by decide) (fun c31 => ?_) (fun c31 => ?_)
  · replace h := (if_pos c31).symm.trans h
    refine x_aload_n C 0 dX6_value_38 rfl ?_
    refine x_get C (R' := RX6) (T := TX6) (N := 26) (ci := 6) 0 23 rfl rfl (by decide) rfl rfl hi_X6_value_6 lk_X6_value_74 dX6_value_39 ?_
    refine x_iconst C (v := 4) dX6_value_42 (by decide) ?_
    refine x_iload_n C 1 dX6_value_43 rfl ?_
    refine x_imul C dX6_value_44 ?_
    refine x_iload_n C 2 dX6_value_45 rfl ?_
    refine x_iadd C dX6_value_46 ?_
    obtain ⟨g47, h⟩ := gdB h
    refine x_iald C 22 rfl g47 dX6_value_47 ?_
    refine x_locals (lv' := []) [] rfl ?_
    exact X_X6_value_b48 C h
  · replace h := (if_neg c31).symm.trans h
    refine x_iconst C (v := 0) dX6_value_34 (by decide) ?_
    refine x_goto C (t := 48) dX6_value_35 (by decide) ?_
    refine x_locals (lv' := []) [] rfl ?_
    exact X_X6_value_b48 C h
def X6_value_b24 (S : St) (x2 x3 s0 : Int32) : Option (Int32 × St) :=
  X6_value_b27 (up S 0 (upd (S 0) 25 s0)) x2 x3
set_option maxHeartbeats 4000000 in
set_option maxRecDepth 100000 in
theorem X_X6_value_b24 {p : Program} {l : Launch} {e : Env} {s : State} {m : MethodId} {args : Array Value} {below : List Frame} {meth : Method} {c : Code} {D : va_G} {cI cZ cJ : ClassId} {ad : Nat → Nat} {rest w0 : va_W} (C : XC p rm_X6_value s m args meth c cX6_value 4 (some .int) RX6 wsX6_value D (t3 cI cZ cJ)) {S : St} {x2 x3 s0 : Int32} {r : Int32 × St} (h : X6_value_b24 S x2 x3 s0 = some r) : XW p l e rm_X6_value s m args below meth c D w0 4 (MQ below (QI D (t3 cI cZ cJ) w0 (wM cI cZ ad r.2 rest) s.heap.size r.1) args s 0 0 (va_A w0 s.heap.size)) (wM cI cZ ad S rest) 0 0 24 [(0, .ref (ad 0)), (2, .int x2), (3, .int x3)] [.int s0, .ref (ad 0)] := by
  unfold X6_value_b24 at h
  refine x_put C (R' := RX6) (T := TX6) (N := 26) (ci := 6) tyX6 tyX6_ok nmX6 0 25 rfl rfl (by decide) rfl rfl (lt_ble rfl) rfl hi_X6_value_6 lk_X6_value_80 dX6_value_24 (wM_f0_25 cI cZ ad S rest s0) ?_
  exact X_X6_value_b27 C h
def X6_value_b23 (S : St) (x2 x3 : Int32) : Option (Int32 × St) :=
  X6_value_b24 S x2 x3 1
set_option maxHeartbeats 4000000 in
set_option maxRecDepth 100000 in
theorem X_X6_value_b23 {p : Program} {l : Launch} {e : Env} {s : State} {m : MethodId} {args : Array Value} {below : List Frame} {meth : Method} {c : Code} {D : va_G} {cI cZ cJ : ClassId} {ad : Nat → Nat} {rest w0 : va_W} (C : XC p rm_X6_value s m args meth c cX6_value 4 (some .int) RX6 wsX6_value D (t3 cI cZ cJ)) {S : St} {x2 x3 : Int32} {r : Int32 × St} (h : X6_value_b23 S x2 x3 = some r) : XW p l e rm_X6_value s m args below meth c D w0 4 (MQ below (QI D (t3 cI cZ cJ) w0 (wM cI cZ ad r.2 rest) s.heap.size r.1) args s 0 0 (va_A w0 s.heap.size)) (wM cI cZ ad S rest) 0 0 23 [(0, .ref (ad 0)), (2, .int x2), (3, .int x3)] [.ref (ad 0)] := by
  unfold X6_value_b23 at h
  refine x_iconst C (v := 1) dX6_value_23 (by decide) ?_
  exact X_X6_value_b24 C h
def X6_value_b7 (S : St) (x2 x3 s0 : Int32) : Option (Int32 × St) :=
  if s0 = 0 then (X6_value_b23 S x2 x3) else ((X6_isIn x3 0 3).bind fun v13 => if v13 = 0 then (X6_value_b23 S x2 x3) else (X6_value_b24 S x2 x3 0))
set_option maxHeartbeats 4000000 in
set_option maxRecDepth 100000 in
theorem X_X6_value_b7 {p : Program} {l : Launch} {e : Env} {s : State} {m : MethodId} {args : Array Value} {below : List Frame} {meth : Method} {c : Code} {D : va_G} {cI cZ cJ : ClassId} {ad : Nat → Nat} {rest w0 : va_W} (C : XC p rm_X6_value s m args meth c cX6_value 4 (some .int) RX6 wsX6_value D (t3 cI cZ cJ)) {S : St} {x2 x3 s0 : Int32} {r : Int32 × St} (h : X6_value_b7 S x2 x3 s0 = some r) : XW p l e rm_X6_value s m args below meth c D w0 4 (MQ below (QI D (t3 cI cZ cJ) w0 (wM cI cZ ad r.2 rest) s.heap.size r.1) args s 0 0 (va_A w0 s.heap.size)) (wM cI cZ ad S rest) 0 0 7 [(0, .ref (ad 0)), (2, .int x2), (3, .int x3)] [.int s0, .ref (ad 0)] := by
  unfold X6_value_b7 at h
  refine x_if_eq C (t := 23) dX6_value_7 (by decide) (fun c7 => ?_) (fun c7 => ?_)
  · replace h := (if_pos c7).symm.trans h
    exact X_X6_value_b23 C h
  · replace h := (if_neg c7).symm.trans h
    refine x_iload_n C 2 dX6_value_10 rfl ?_
    refine x_iconst C (v := 0) dX6_value_11 (by decide) ?_
    refine x_iconst C (v := 3) dX6_value_12 (by decide) ?_
    obtain ⟨v13, hg13, h⟩ := ob h
    refine x_ci0 (x_runS C (As := [.int x3, .int 0, .int 3]) (rest := [.ref (ad 0)]) (c_X6_isIn hg13) (cw_X6_value_X6_isIn_84 C) rfl (Nat.le_of_ble_eq_true rfl) dX6_value_13 ⟨Nat.zero_le _, Nat.zero_le _⟩) ?_
    refine x_if_eq C (t := 23) dX6_value_16 (by decide) (fun c16 => ?_) (fun c16 => ?_)
    · replace h := (if_pos c16).symm.trans h
      exact X_X6_value_b23 C h
    · replace h := (if_neg c16).symm.trans h
      refine x_iconst C (v := 0) dX6_value_19 (by decide) ?_
      refine x_goto C (t := 24) dX6_value_20 (by decide) ?_
      exact X_X6_value_b24 C h
def X6_value (S : St) (x1 x2 x3 : Int32) : Option (Int32 × St) :=
  (X6_isHere S x1 x2).bind fun q4 => X6_value_b7 q4.2 x2 x3 q4.1
set_option maxHeartbeats 4000000 in
set_option maxRecDepth 100000 in
theorem X_X6_value {p : Program} {l : Launch} {e : Env} {s : State} {m : MethodId} {args : Array Value} {below : List Frame} {meth : Method} {c : Code} {D : va_G} {cI cZ cJ : ClassId} {ad : Nat → Nat} {rest w0 : va_W} (C : XC p rm_X6_value s m args meth c cX6_value 4 (some .int) RX6 wsX6_value D (t3 cI cZ cJ)) {S : St} {x1 x2 x3 : Int32} {r : Int32 × St} (h : X6_value S x1 x2 x3 = some r) : XW p l e rm_X6_value s m args below meth c D w0 4 (MQ below (QI D (t3 cI cZ cJ) w0 (wM cI cZ ad r.2 rest) s.heap.size r.1) args s 0 0 (va_A w0 s.heap.size)) (wM cI cZ ad S rest) 0 0 0 [(0, .ref (ad 0)), (1, .int x1), (2, .int x2), (3, .int x3)] [] := by
  unfold X6_value at h
  refine x_aload_n C 0 dX6_value_0 rfl ?_
  refine x_aload_n C 0 dX6_value_1 rfl ?_
  refine x_iload_n C 1 dX6_value_2 rfl ?_
  refine x_iload_n C 2 dX6_value_3 rfl ?_
  obtain ⟨⟨v4, S4⟩, hg4, h⟩ := ob h
  refine x_ci0 (x_runV C (As := [.int x1, .int x2]) (rest := [.ref (ad 0)]) (c_X6_isHere hg4) (cw_X6_value_X6_isHere_127 C) 0 rfl rfl rfl (Nat.le_of_ble_eq_true rfl) dX6_value_4 ⟨Nat.zero_le _, Nat.zero_le _⟩) ?_
  refine x_locals (lv' := [(0, .ref (ad 0)), (2, .int x2), (3, .int x3)]) [0, 2, 3] rfl ?_
  exact X_X6_value_b7 C h
set_option maxRecDepth 100000 in
theorem c_X6_value {l : Launch} {D : va_G} {cI cZ cJ : ClassId} {ad : Nat → Nat} {S : St} {rest : va_W} {x1 x2 x3 : Int32} {r : Int32 × St} (h : X6_value S x1 x2 x3 = some r) : ∀ sz, Met l yX6_value wsX6_value rm_X6_value (PC D (t3 cI cZ cJ) [.ref (ad 0), .int x1, .int x2, .int x3] (wM cI cZ ad S rest) sz) (QI D (t3 cI cZ cJ) (wM cI cZ ad S rest) (wM cI cZ ad r.2 rest) sz r.1) 0 0 (va_A (wM cI cZ ad S rest) sz) := by
  refine x_met (Qc := fun sz => QI D (t3 cI cZ cJ) (wM cI cZ ad S rest) (wM cI cZ ad r.2 rest) sz r.1) RX6 rfl (by decide) rfl (Nat.le_of_ble_eq_true rfl) (fun p e s m args below meth c C => ?_)
  exact X_X6_value C h
/-! EntryMastersModel.isWhole(II)Z -/
abbrev rm_X6_isWhole : Room := { frames := 7, cells := 0, slots := 0, locals := 158 }
theorem hi_X6_isWhole_6 : ∀ z ∈ u_ws RX6 TX6 26, z ∈ wsX6_isWhole := by decide +kernel
theorem lk_X6_isWhole_7 : Cond.fieldLink RX6 7 RX6 "needs" "[I" ∈ wsX6_isWhole := by decide +kernel
theorem lk_X6_isWhole_71 : Cond.fieldLink RX6 71 RX6 "its" "[I" ∈ wsX6_isWhole := by decide +kernel
theorem lk_X6_isWhole_74 : Cond.fieldLink RX6 74 RX6 "value" "[I" ∈ wsX6_isWhole := by decide +kernel
theorem cw_X6_isWhole_X6_asks_140 {p : Program} {s : State} {m : MethodId} {args : Array Value} {meth : Method} {c : Code} {D : va_G} {tys : List (ClassId × FieldType)} {R : Room} (C : XC p R s m args meth c cX6_isWhole 5 (some .boolean) RX6 wsX6_isWhole D tys) : CallW rm_X6_isWhole s args RX6 RX6 140 yX6_asks cX6_asks 3 (some .boolean) wsX6_asks rm_X6_asks 0 0 2 := cwV 2 C.2.2.2.2.1 gX6_isWhole_X6_asks rfl rfl rfl (by decide +kernel) ⟨Nat.le_of_ble_eq_true rfl, Nat.le_of_ble_eq_true rfl⟩
def X6_isWhole_b65 (S : St) (x3 : Int32) : Option (Int32 × St) :=
  if x3 &&& 1 = x3 then (some (x3, S)) else none
set_option maxHeartbeats 4000000 in
set_option maxRecDepth 100000 in
theorem X_X6_isWhole_b65 {p : Program} {l : Launch} {e : Env} {s : State} {m : MethodId} {args : Array Value} {below : List Frame} {meth : Method} {c : Code} {D : va_G} {cI cZ cJ : ClassId} {ad : Nat → Nat} {rest w0 : va_W} (C : XC p rm_X6_isWhole s m args meth c cX6_isWhole 5 (some .boolean) RX6 wsX6_isWhole D (t3 cI cZ cJ)) {S : St} {x3 : Int32} {r : Int32 × St} (h : X6_isWhole_b65 S x3 = some r) : XW p l e rm_X6_isWhole s m args below meth c D w0 5 (MQ below (QI D (t3 cI cZ cJ) w0 (wM cI cZ ad r.2 rest) s.heap.size r.1) args s 0 0 (va_A w0 s.heap.size)) (wM cI cZ ad S rest) 0 0 65 [(3, .int x3)] [] := by
  unfold X6_isWhole_b65 at h
  refine x_iload_n C 0 dX6_isWhole_65 rfl ?_
  obtain ⟨g66, h⟩ := gd h
  obtain rfl := Option.some.inj h
  exact x_zret C g66 dX6_isWhole_66
def X6_isWhole_b58 (S : St) (x2 x4 s0 : Int32) : Option ((St × Int32 × Int32 × Int32) ⊕ (Int32 × St)) :=
  some (.inl (S, x2, s0, x4 + 1))
set_option maxHeartbeats 4000000 in
set_option maxRecDepth 100000 in
theorem X_X6_isWhole_b58 {p : Program} {l : Launch} {e : Env} {s : State} {m : MethodId} {args : Array Value} {below : List Frame} {meth : Method} {c : Code} {D : va_G} {cI cZ cJ : ClassId} {ad : Nat → Nat} {rest w0 : va_W} (C : XC p rm_X6_isWhole s m args meth c cX6_isWhole 5 (some .boolean) RX6 wsX6_isWhole D (t3 cI cZ cJ)) {S : St} {x2 x4 s0 : Int32} {z : (St × Int32 × Int32 × Int32) ⊕ (Int32 × St)} {r : Int32 × St} (h : X6_isWhole_b58 S x2 x4 s0 = some z) (hk : ∀ a' : (St × Int32 × Int32 × Int32), z = .inl a' → XW p l e rm_X6_isWhole s m args below meth c D w0 5 (MQ below (QI D (t3 cI cZ cJ) w0 (wM cI cZ ad r.2 rest) s.heap.size r.1) args s 0 0 (va_A w0 s.heap.size)) (wM cI cZ ad a'.1 rest) 0 0 10 [(0, .ref (ad 0)), (2, .int a'.2.1), (3, .int a'.2.2.1), (4, .int a'.2.2.2)] []) (hr : ∀ r', z = .inr r' → r' = r) : XW p l e rm_X6_isWhole s m args below meth c D w0 5 (MQ below (QI D (t3 cI cZ cJ) w0 (wM cI cZ ad r.2 rest) s.heap.size r.1) args s 0 0 (va_A w0 s.heap.size)) (wM cI cZ ad S rest) 0 0 58 [(0, .ref (ad 0)), (2, .int x2), (4, .int x4)] [.int s0] := by
  unfold X6_isWhole_b58 at h
  refine x_istore_n C (lv' := [(0, .ref (ad 0)), (2, .int x2), (3, .int s0), (4, .int x4)]) dX6_isWhole_58 (by decide) rfl ?_
  refine x_iinc C (v := x4 + 1) (lv' := [(0, .ref (ad 0)), (2, .int x2), (3, .int s0), (4, .int (x4 + 1))]) 3 dX6_isWhole_59 rfl rfl (by decide) rfl ?_
  refine x_goto C (t := 10) dX6_isWhole_62 (by decide) ?_
  exact hk _ (Option.some.inj h).symm
def X6_isWhole_b57 (S : St) (x2 x4 : Int32) : Option ((St × Int32 × Int32 × Int32) ⊕ (Int32 × St)) :=
  X6_isWhole_b58 S x2 x4 0
set_option maxHeartbeats 4000000 in
set_option maxRecDepth 100000 in
theorem X_X6_isWhole_b57 {p : Program} {l : Launch} {e : Env} {s : State} {m : MethodId} {args : Array Value} {below : List Frame} {meth : Method} {c : Code} {D : va_G} {cI cZ cJ : ClassId} {ad : Nat → Nat} {rest w0 : va_W} (C : XC p rm_X6_isWhole s m args meth c cX6_isWhole 5 (some .boolean) RX6 wsX6_isWhole D (t3 cI cZ cJ)) {S : St} {x2 x4 : Int32} {z : (St × Int32 × Int32 × Int32) ⊕ (Int32 × St)} {r : Int32 × St} (h : X6_isWhole_b57 S x2 x4 = some z) (hk : ∀ a' : (St × Int32 × Int32 × Int32), z = .inl a' → XW p l e rm_X6_isWhole s m args below meth c D w0 5 (MQ below (QI D (t3 cI cZ cJ) w0 (wM cI cZ ad r.2 rest) s.heap.size r.1) args s 0 0 (va_A w0 s.heap.size)) (wM cI cZ ad a'.1 rest) 0 0 10 [(0, .ref (ad 0)), (2, .int a'.2.1), (3, .int a'.2.2.1), (4, .int a'.2.2.2)] []) (hr : ∀ r', z = .inr r' → r' = r) : XW p l e rm_X6_isWhole s m args below meth c D w0 5 (MQ below (QI D (t3 cI cZ cJ) w0 (wM cI cZ ad r.2 rest) s.heap.size r.1) args s 0 0 (va_A w0 s.heap.size)) (wM cI cZ ad S rest) 0 0 57 [(0, .ref (ad 0)), (2, .int x2), (4, .int x4)] [] := by
  unfold X6_isWhole_b57 at h
  refine x_iconst C (v := 0) dX6_isWhole_57 (by decide) ?_
  exact X_X6_isWhole_b58 C h hk hr
def X6_isWhole_b53 (S : St) (x2 x4 : Int32) : Option ((St × Int32 × Int32 × Int32) ⊕ (Int32 × St)) :=
  X6_isWhole_b58 S x2 x4 1
set_option maxHeartbeats 4000000 in
set_option maxRecDepth 100000 in
theorem X_X6_isWhole_b53 {p : Program} {l : Launch} {e : Env} {s : State} {m : MethodId} {args : Array Value} {below : List Frame} {meth : Method} {c : Code} {D : va_G} {cI cZ cJ : ClassId} {ad : Nat → Nat} {rest w0 : va_W} (C : XC p rm_X6_isWhole s m args meth c cX6_isWhole 5 (some .boolean) RX6 wsX6_isWhole D (t3 cI cZ cJ)) {S : St} {x2 x4 : Int32} {z : (St × Int32 × Int32 × Int32) ⊕ (Int32 × St)} {r : Int32 × St} (h : X6_isWhole_b53 S x2 x4 = some z) (hk : ∀ a' : (St × Int32 × Int32 × Int32), z = .inl a' → XW p l e rm_X6_isWhole s m args below meth c D w0 5 (MQ below (QI D (t3 cI cZ cJ) w0 (wM cI cZ ad r.2 rest) s.heap.size r.1) args s 0 0 (va_A w0 s.heap.size)) (wM cI cZ ad a'.1 rest) 0 0 10 [(0, .ref (ad 0)), (2, .int a'.2.1), (3, .int a'.2.2.1), (4, .int a'.2.2.2)] []) (hr : ∀ r', z = .inr r' → r' = r) : XW p l e rm_X6_isWhole s m args below meth c D w0 5 (MQ below (QI D (t3 cI cZ cJ) w0 (wM cI cZ ad r.2 rest) s.heap.size r.1) args s 0 0 (va_A w0 s.heap.size)) (wM cI cZ ad S rest) 0 0 53 [(0, .ref (ad 0)), (2, .int x2), (4, .int x4)] [] := by
  unfold X6_isWhole_b53 at h
  refine x_iconst C (v := 1) dX6_isWhole_53 (by decide) ?_
  refine x_goto C (t := 58) dX6_isWhole_54 (by decide) ?_
  exact X_X6_isWhole_b58 C h hk hr
def X6_isWhole_H10 (S : St) (x2 x3 x4 : Int32) : Option ((St × Int32 × Int32 × Int32) ⊕ (Int32 × St)) :=
  if 4 ≤ x4 then (exI (X6_isWhole_b65 S x3)) else (if x3 = 0 then (X6_isWhole_b57 S x2 x4) else (if inB x2 42 then (if inB (S 21 x2.toNatClampNeg) 3 then (if (((S 1 (S 21 x2.toNatClampNeg).toNatClampNeg) >>> (x4 &&& 31)) &&& 1) = 0 then (X6_isWhole_b53 S x2 x4) else (if inB ((4 * x2) + x4) 168 then (if (S 22 ((4 * x2) + x4).toNatClampNeg) < 0 then (X6_isWhole_b57 S x2 x4) else (X6_isWhole_b53 S x2 x4)) else none)) else none) else none))
set_option maxHeartbeats 4000000 in
set_option maxRecDepth 100000 in
theorem X_X6_isWhole_H10 {p : Program} {l : Launch} {e : Env} {s : State} {m : MethodId} {args : Array Value} {below : List Frame} {meth : Method} {c : Code} {D : va_G} {cI cZ cJ : ClassId} {ad : Nat → Nat} {rest w0 : va_W} (C : XC p rm_X6_isWhole s m args meth c cX6_isWhole 5 (some .boolean) RX6 wsX6_isWhole D (t3 cI cZ cJ)) {S : St} {x2 x3 x4 : Int32} {z : (St × Int32 × Int32 × Int32) ⊕ (Int32 × St)} {r : Int32 × St} (h : X6_isWhole_H10 S x2 x3 x4 = some z) (hk : ∀ a' : (St × Int32 × Int32 × Int32), z = .inl a' → XW p l e rm_X6_isWhole s m args below meth c D w0 5 (MQ below (QI D (t3 cI cZ cJ) w0 (wM cI cZ ad r.2 rest) s.heap.size r.1) args s 0 0 (va_A w0 s.heap.size)) (wM cI cZ ad a'.1 rest) 0 0 10 [(0, .ref (ad 0)), (2, .int a'.2.1), (3, .int a'.2.2.1), (4, .int a'.2.2.2)] []) (hr : ∀ r', z = .inr r' → r' = r) : XW p l e rm_X6_isWhole s m args below meth c D w0 5 (MQ below (QI D (t3 cI cZ cJ) w0 (wM cI cZ ad r.2 rest) s.heap.size r.1) args s 0 0 (va_A w0 s.heap.size)) (wM cI cZ ad S rest) 0 0 10 [(0, .ref (ad 0)), (2, .int x2), (3, .int x3), (4, .int x4)] [] := by
  unfold X6_isWhole_H10 at h
  refine x_iload C 3 dX6_isWhole_10 rfl ?_
  refine x_iconst C (v := 4) dX6_isWhole_12 (by decide) ?_
  refine x_icmp_ge C (t := 65) dX6_isWhole_13 (by decide) (fun c13 => ?_) (fun c13 => ?_)
  · replace h := (if_pos c13).symm.trans h
    refine x_locals (lv' := [(3, .int x3)]) [2] rfl ?_
    obtain ⟨r1, h1, h2⟩ := exI_some h
    obtain rfl := hr r1 h2
    exact X_X6_isWhole_b65 C h1
  · replace h := (if_neg c13).symm.trans h
    refine x_iload_n C 2 dX6_isWhole_16 rfl ?_
    refine x_if_eq C (t := 57) dX6_isWhole_17 (by decide) (fun c17 => ?_) (fun c17 => ?_)
    · replace h := (if_pos c17).symm.trans h
      refine x_locals (lv' := [(0, .ref (ad 0)), (2, .int x2), (4, .int x4)]) [0, 1, 3] rfl ?_
      exact X_X6_isWhole_b57 C h hk hr
    · replace h := (if_neg c17).symm.trans h
      refine x_aload_n C 0 dX6_isWhole_20 rfl ?_
      refine x_get C (R' := RX6) (T := TX6) (N := 26) (ci := 6) 0 0 rfl rfl (by decide) rfl rfl hi_X6_isWhole_6 lk_X6_isWhole_7 dX6_isWhole_21 ?_
      refine x_aload_n C 0 dX6_isWhole_24 rfl ?_
      refine x_get C (R' := RX6) (T := TX6) (N := 26) (ci := 6) 0 22 rfl rfl (by decide) rfl rfl hi_X6_isWhole_6 lk_X6_isWhole_71 dX6_isWhole_25 ?_
      refine x_iload_n C 1 dX6_isWhole_28 rfl ?_
      obtain ⟨g29, h⟩ := gdB h
      refine x_iald C 21 rfl g29 dX6_isWhole_29 ?_
      obtain ⟨g30, h⟩ := gdB h
      refine x_iald C 1 rfl g30 dX6_isWhole_30 ?_
      refine x_iload C 3 dX6_isWhole_31 rfl ?_
      refine x_ishr C dX6_isWhole_33 ?_
      refine x_iconst C (v := 1) dX6_isWhole_34 (by decide) ?_
      refine x_iand C dX6_isWhole_35 ?_
      refine x_if_eq C (t := 53) dX6_isWhole_36 (by decide) (fun c36 => ?_) (fun c36 => ?_)
      · replace h := (if_pos c36).symm.trans h
        refine x_locals (lv' := [(0, .ref (ad 0)), (2, .int x2), (4, .int x4)]) [0, 1, 3] rfl ?_
        exact X_X6_isWhole_b53 C h hk hr
      · replace h := (if_neg c36).symm.trans h
        refine x_aload_n C 0 dX6_isWhole_39 rfl ?_
        refine x_get C (R' := RX6) (T := TX6) (N := 26) (ci := 6) 0 23 rfl rfl (by decide) rfl rfl hi_X6_isWhole_6 lk_X6_isWhole_74 dX6_isWhole_40 ?_
        refine x_iconst C (v := 4) dX6_isWhole_43 (by decide) ?_
        refine x_iload_n C 1 dX6_isWhole_44 rfl ?_
        refine x_imul C dX6_isWhole_45 ?_
        refine x_iload C 3 dX6_isWhole_46 rfl ?_
        refine x_iadd C dX6_isWhole_48 ?_
        obtain ⟨g49, h⟩ := gdB h
        refine x_iald C 22 rfl g49 dX6_isWhole_49 ?_
        refine x_if_lt C (t := 57) dX6_isWhole_50 (by decide) (fun c50 => ?_) (fun c50 => ?_)
        · replace h := (if_pos c50).symm.trans h
          refine x_locals (lv' := [(0, .ref (ad 0)), (2, .int x2), (4, .int x4)]) [0, 1, 3] rfl ?_
          exact X_X6_isWhole_b57 C h hk hr
        · replace h := (if_neg c50).symm.trans h
          refine x_locals (lv' := [(0, .ref (ad 0)), (2, .int x2), (4, .int x4)]) [0, 1, 3] rfl ?_
          exact X_X6_isWhole_b53 C h hk hr
def X6_isWhole_L10 (S : St) (x2 x3 x4 : Int32) : Option (Int32 × St) := wloop (fun a' : (St × Int32 × Int32 × Int32) => X6_isWhole_H10 a'.1 a'.2.1 a'.2.2.1 a'.2.2.2) 1000 (S, x2, x3, x4)
set_option maxHeartbeats 4000000 in
set_option maxRecDepth 100000 in
theorem X_X6_isWhole_L10 {p : Program} {l : Launch} {e : Env} {s : State} {m : MethodId} {args : Array Value} {below : List Frame} {meth : Method} {c : Code} {D : va_G} {cI cZ cJ : ClassId} {ad : Nat → Nat} {rest w0 : va_W} (C : XC p rm_X6_isWhole s m args meth c cX6_isWhole 5 (some .boolean) RX6 wsX6_isWhole D (t3 cI cZ cJ)) {S : St} {x2 x3 x4 : Int32} {r : Int32 × St} (h : X6_isWhole_L10 S x2 x3 x4 = some r) : XW p l e rm_X6_isWhole s m args below meth c D w0 5 (MQ below (QI D (t3 cI cZ cJ) w0 (wM cI cZ ad r.2 rest) s.heap.size r.1) args s 0 0 (va_A w0 s.heap.size)) (wM cI cZ ad S rest) 0 0 10 [(0, .ref (ad 0)), (2, .int x2), (3, .int x3), (4, .int x4)] [] :=
  wloop_met (P := (fun a' : (St × Int32 × Int32 × Int32) => XW p l e rm_X6_isWhole s m args below meth c D w0 5 (MQ below (QI D (t3 cI cZ cJ) w0 (wM cI cZ ad r.2 rest) s.heap.size r.1) args s 0 0 (va_A w0 s.heap.size)) (wM cI cZ ad a'.1 rest) 0 0 10 [(0, .ref (ad 0)), (2, .int a'.2.1), (3, .int a'.2.2.1), (4, .int a'.2.2.2)] [])) (fun _ _ hz hk hr => X_X6_isWhole_H10 C hz hk hr) 1000 (S, x2, x3, x4) h
def X6_isWhole_b6 (S : St) (x2 s0 : Int32) : Option (Int32 × St) :=
  X6_isWhole_L10 S x2 s0 0
set_option maxHeartbeats 4000000 in
set_option maxRecDepth 100000 in
theorem X_X6_isWhole_b6 {p : Program} {l : Launch} {e : Env} {s : State} {m : MethodId} {args : Array Value} {below : List Frame} {meth : Method} {c : Code} {D : va_G} {cI cZ cJ : ClassId} {ad : Nat → Nat} {rest w0 : va_W} (C : XC p rm_X6_isWhole s m args meth c cX6_isWhole 5 (some .boolean) RX6 wsX6_isWhole D (t3 cI cZ cJ)) {S : St} {x2 s0 : Int32} {r : Int32 × St} (h : X6_isWhole_b6 S x2 s0 = some r) : XW p l e rm_X6_isWhole s m args below meth c D w0 5 (MQ below (QI D (t3 cI cZ cJ) w0 (wM cI cZ ad r.2 rest) s.heap.size r.1) args s 0 0 (va_A w0 s.heap.size)) (wM cI cZ ad S rest) 0 0 6 [(0, .ref (ad 0)), (2, .int x2)] [.int s0] := by
  unfold X6_isWhole_b6 at h
  refine x_istore_n C (lv' := [(0, .ref (ad 0)), (2, .int x2), (3, .int s0)]) dX6_isWhole_6 (by decide) rfl ?_
  refine x_iconst C (v := 0) dX6_isWhole_7 (by decide) ?_
  refine x_istore C (lv' := [(0, .ref (ad 0)), (2, .int x2), (3, .int s0), (4, .int 0)]) dX6_isWhole_8 (by decide) rfl ?_
  exact X_X6_isWhole_L10 C h
def X6_isWhole (S : St) (x1 x2 : Int32) : Option (Int32 × St) :=
  (X6_asks S x1 x2).bind fun q3 => X6_isWhole_b6 q3.2 x2 q3.1
set_option maxHeartbeats 4000000 in
set_option maxRecDepth 100000 in
theorem X_X6_isWhole {p : Program} {l : Launch} {e : Env} {s : State} {m : MethodId} {args : Array Value} {below : List Frame} {meth : Method} {c : Code} {D : va_G} {cI cZ cJ : ClassId} {ad : Nat → Nat} {rest w0 : va_W} (C : XC p rm_X6_isWhole s m args meth c cX6_isWhole 5 (some .boolean) RX6 wsX6_isWhole D (t3 cI cZ cJ)) {S : St} {x1 x2 : Int32} {r : Int32 × St} (h : X6_isWhole S x1 x2 = some r) : XW p l e rm_X6_isWhole s m args below meth c D w0 5 (MQ below (QI D (t3 cI cZ cJ) w0 (wM cI cZ ad r.2 rest) s.heap.size r.1) args s 0 0 (va_A w0 s.heap.size)) (wM cI cZ ad S rest) 0 0 0 [(0, .ref (ad 0)), (1, .int x1), (2, .int x2)] [] := by
  unfold X6_isWhole at h
  refine x_aload_n C 0 dX6_isWhole_0 rfl ?_
  refine x_iload_n C 1 dX6_isWhole_1 rfl ?_
  refine x_iload_n C 2 dX6_isWhole_2 rfl ?_
  obtain ⟨⟨v3, S3⟩, hg3, h⟩ := ob h
  refine x_ci0 (x_runV C (As := [.int x1, .int x2]) (rest := []) (c_X6_asks hg3) (cw_X6_isWhole_X6_asks_140 C) 0 rfl rfl rfl (Nat.le_of_ble_eq_true rfl) dX6_isWhole_3 ⟨Nat.zero_le _, Nat.zero_le _⟩) ?_
  refine x_locals (lv' := [(0, .ref (ad 0)), (2, .int x2)]) [0, 2] rfl ?_
  exact X_X6_isWhole_b6 C h
set_option maxRecDepth 100000 in
theorem c_X6_isWhole {l : Launch} {D : va_G} {cI cZ cJ : ClassId} {ad : Nat → Nat} {S : St} {rest : va_W} {x1 x2 : Int32} {r : Int32 × St} (h : X6_isWhole S x1 x2 = some r) : ∀ sz, Met l yX6_isWhole wsX6_isWhole rm_X6_isWhole (PC D (t3 cI cZ cJ) [.ref (ad 0), .int x1, .int x2] (wM cI cZ ad S rest) sz) (QI D (t3 cI cZ cJ) (wM cI cZ ad S rest) (wM cI cZ ad r.2 rest) sz r.1) 0 0 (va_A (wM cI cZ ad S rest) sz) := by
  refine x_met (Qc := fun sz => QI D (t3 cI cZ cJ) (wM cI cZ ad S rest) (wM cI cZ ad r.2 rest) sz r.1) RX6 rfl (by decide) rfl (Nat.le_of_ble_eq_true rfl) (fun p e s m args below meth c C => ?_)
  exact X_X6_isWhole C h
/-! EntryMastersModel.find(III)I -/
abbrev rm_X6_find : Room := { frames := 6, cells := 0, slots := 0, locals := 136 }
theorem hi_X6_find_6 : ∀ z ∈ u_ws RX6 TX6 26, z ∈ wsX6_find := by decide +kernel
theorem lk_X6_find_80 : Cond.fieldLink RX6 80 RX6 "thrown" "I" ∈ wsX6_find := by decide +kernel
theorem cw_X6_find_X6_finds_95 {p : Program} {s : State} {m : MethodId} {args : Array Value} {meth : Method} {c : Code} {D : va_G} {tys : List (ClassId × FieldType)} {R : Room} (C : XC p R s m args meth c cX6_find 4 (some .int) RX6 wsX6_find D tys) : CallW rm_X6_find s args RX6 RX6 95 yX6_finds cX6_finds 6 (some .int) wsX6_finds rm_X6_finds 0 0 3 := cwV 3 C.2.2.2.2.1 gX6_find_X6_finds rfl rfl rfl (by decide +kernel) ⟨Nat.le_of_ble_eq_true rfl, Nat.le_of_ble_eq_true rfl⟩
theorem cw_X6_find_X6_isHere_127 {p : Program} {s : State} {m : MethodId} {args : Array Value} {meth : Method} {c : Code} {D : va_G} {tys : List (ClassId × FieldType)} {R : Room} (C : XC p R s m args meth c cX6_find 4 (some .int) RX6 wsX6_find D tys) : CallW rm_X6_find s args RX6 RX6 127 yX6_isHere cX6_isHere 3 (some .boolean) wsX6_isHere rm_X6_isHere 0 0 2 := cwV 2 C.2.2.2.2.1 gX6_find_X6_isHere rfl rfl rfl (by decide +kernel) ⟨Nat.le_of_ble_eq_true rfl, Nat.le_of_ble_eq_true rfl⟩
theorem cw_X6_find_X6_isIn_84 {p : Program} {s : State} {m : MethodId} {args : Array Value} {meth : Method} {c : Code} {D : va_G} {tys : List (ClassId × FieldType)} {R : Room} (C : XC p R s m args meth c cX6_find 4 (some .int) RX6 wsX6_find D tys) : CallB rm_X6_find s args RX6 84 yX6_isIn cX6_isIn 3 (some .boolean) wsX6_isIn rm_X6_isIn 0 0 3 ∧ (Cond.static yX6_isIn).before args s = true := va_cwS 3 C.2.2.2.2.1 gX6_find_X6_isIn rfl rfl rfl (by decide +kernel) ⟨Nat.le_of_ble_eq_true rfl, Nat.le_of_ble_eq_true rfl⟩
def X6_find_b50 (S : St) (s0 : Int32) : Option (Int32 × St) :=
  some (s0, S)
set_option maxHeartbeats 4000000 in
set_option maxRecDepth 100000 in
theorem X_X6_find_b50 {p : Program} {l : Launch} {e : Env} {s : State} {m : MethodId} {args : Array Value} {below : List Frame} {meth : Method} {c : Code} {D : va_G} {cI cZ cJ : ClassId} {ad : Nat → Nat} {rest w0 : va_W} (C : XC p rm_X6_find s m args meth c cX6_find 4 (some .int) RX6 wsX6_find D (t3 cI cZ cJ)) {S : St} {s0 : Int32} {r : Int32 × St} (h : X6_find_b50 S s0 = some r) : XW p l e rm_X6_find s m args below meth c D w0 4 (MQ below (QI D (t3 cI cZ cJ) w0 (wM cI cZ ad r.2 rest) s.heap.size r.1) args s 0 0 (va_A w0 s.heap.size)) (wM cI cZ ad S rest) 0 0 50 [] [.int s0] := by
  unfold X6_find_b50 at h
  obtain rfl := Option.some.inj h
  exact x_iret C dX6_find_50
def X6_find_b32 (S : St) (x2 x3 : Int32) : Option (Int32 × St) :=
  if (S 0 25) ≤ 0 then ((X6_finds S x2 x3 (-1)).bind fun v47 => X6_find_b50 S v47) else (X6_find_b50 S 0)
set_option maxHeartbeats 4000000 in
set_option maxRecDepth 100000 in
theorem X_X6_find_b32 {p : Program} {l : Launch} {e : Env} {s : State} {m : MethodId} {args : Array Value} {below : List Frame} {meth : Method} {c : Code} {D : va_G} {cI cZ cJ : ClassId} {ad : Nat → Nat} {rest w0 : va_W} (C : XC p rm_X6_find s m args meth c cX6_find 4 (some .int) RX6 wsX6_find D (t3 cI cZ cJ)) {S : St} {x2 x3 : Int32} {r : Int32 × St} (h : X6_find_b32 S x2 x3 = some r) : XW p l e rm_X6_find s m args below meth c D w0 4 (MQ below (QI D (t3 cI cZ cJ) w0 (wM cI cZ ad r.2 rest) s.heap.size r.1) args s 0 0 (va_A w0 s.heap.size)) (wM cI cZ ad S rest) 0 0 32 [(0, .ref (ad 0)), (2, .int x2), (3, .int x3)] [] := by
  unfold X6_find_b32 at h
  refine x_aload_n C 0 dX6_find_32 rfl ?_
  refine x_get C (R' := RX6) (T := TX6) (N := 26) (ci := 6) 0 25 rfl rfl (by decide) rfl rfl hi_X6_find_6 lk_X6_find_80 dX6_find_33 ?_
  refine x_if_le C (t := 43) dX6_find_36 (by decide) (fun c36 => ?_) (fun c36 => ?_)
  · replace h := (if_pos c36).symm.trans h
    refine x_aload_n C 0 dX6_find_43 rfl ?_
    refine x_iload_n C 1 dX6_find_44 rfl ?_
    refine x_iload_n C 2 dX6_find_45 rfl ?_
    refine x_iconst C (v := (-1)) dX6_find_46 (by decide) ?_
    obtain ⟨v47, hg47, h⟩ := ob h
    refine x_ci0 (x_runV C (As := [.int x2, .int x3, .int (-1)]) (rest := []) (c_X6_finds hg47) (cw_X6_find_X6_finds_95 C) 0 rfl rfl rfl (Nat.le_of_ble_eq_true rfl) dX6_find_47 ⟨Nat.zero_le _, Nat.zero_le _⟩) ?_
    refine x_locals (lv' := []) [] rfl ?_
    exact X_X6_find_b50 C h
  · replace h := (if_neg c36).symm.trans h
    refine x_iconst C (v := 0) dX6_find_39 (by decide) ?_
    refine x_goto C (t := 50) dX6_find_40 (by decide) ?_
    refine x_locals (lv' := []) [] rfl ?_
    exact X_X6_find_b50 C h
def X6_find_b29 (S : St) (x2 x3 s0 : Int32) : Option (Int32 × St) :=
  X6_find_b32 (up S 0 (upd (S 0) 25 s0)) x2 x3
set_option maxHeartbeats 4000000 in
set_option maxRecDepth 100000 in
theorem X_X6_find_b29 {p : Program} {l : Launch} {e : Env} {s : State} {m : MethodId} {args : Array Value} {below : List Frame} {meth : Method} {c : Code} {D : va_G} {cI cZ cJ : ClassId} {ad : Nat → Nat} {rest w0 : va_W} (C : XC p rm_X6_find s m args meth c cX6_find 4 (some .int) RX6 wsX6_find D (t3 cI cZ cJ)) {S : St} {x2 x3 s0 : Int32} {r : Int32 × St} (h : X6_find_b29 S x2 x3 s0 = some r) : XW p l e rm_X6_find s m args below meth c D w0 4 (MQ below (QI D (t3 cI cZ cJ) w0 (wM cI cZ ad r.2 rest) s.heap.size r.1) args s 0 0 (va_A w0 s.heap.size)) (wM cI cZ ad S rest) 0 0 29 [(0, .ref (ad 0)), (2, .int x2), (3, .int x3)] [.int s0, .ref (ad 0)] := by
  unfold X6_find_b29 at h
  refine x_put C (R' := RX6) (T := TX6) (N := 26) (ci := 6) tyX6 tyX6_ok nmX6 0 25 rfl rfl (by decide) rfl rfl (lt_ble rfl) rfl hi_X6_find_6 lk_X6_find_80 dX6_find_29 (wM_f0_25 cI cZ ad S rest s0) ?_
  exact X_X6_find_b32 C h
def X6_find_b7 (S : St) (x2 x3 s0 : Int32) : Option (Int32 × St) :=
  if s0 = 0 then (X6_find_b29 S x2 x3 1) else ((X6_isIn x3 0 99).bind fun v18 => if v18 = 0 then (X6_find_b29 S x2 x3 2) else (X6_find_b29 S x2 x3 0))
set_option maxHeartbeats 4000000 in
set_option maxRecDepth 100000 in
theorem X_X6_find_b7 {p : Program} {l : Launch} {e : Env} {s : State} {m : MethodId} {args : Array Value} {below : List Frame} {meth : Method} {c : Code} {D : va_G} {cI cZ cJ : ClassId} {ad : Nat → Nat} {rest w0 : va_W} (C : XC p rm_X6_find s m args meth c cX6_find 4 (some .int) RX6 wsX6_find D (t3 cI cZ cJ)) {S : St} {x2 x3 s0 : Int32} {r : Int32 × St} (h : X6_find_b7 S x2 x3 s0 = some r) : XW p l e rm_X6_find s m args below meth c D w0 4 (MQ below (QI D (t3 cI cZ cJ) w0 (wM cI cZ ad r.2 rest) s.heap.size r.1) args s 0 0 (va_A w0 s.heap.size)) (wM cI cZ ad S rest) 0 0 7 [(0, .ref (ad 0)), (2, .int x2), (3, .int x3)] [.int s0, .ref (ad 0)] := by
  unfold X6_find_b7 at h
  refine x_if_ne C (t := 14) dX6_find_7 (by decide) (fun c7 => ?_) (fun c7 => ?_)
  · replace h := (if_neg c7).symm.trans h
    refine x_iload_n C 2 dX6_find_14 rfl ?_
    refine x_iconst C (v := 0) dX6_find_15 (by decide) ?_
    refine x_bipush C (v := 99) dX6_find_16 (by decide) ?_
    obtain ⟨v18, hg18, h⟩ := ob h
    refine x_ci0 (x_runS C (As := [.int x3, .int 0, .int 99]) (rest := [.ref (ad 0)]) (c_X6_isIn hg18) (cw_X6_find_X6_isIn_84 C) rfl (Nat.le_of_ble_eq_true rfl) dX6_find_18 ⟨Nat.zero_le _, Nat.zero_le _⟩) ?_
    refine x_if_eq C (t := 28) dX6_find_21 (by decide) (fun c21 => ?_) (fun c21 => ?_)
    · replace h := (if_pos c21).symm.trans h
      refine x_iconst C (v := 2) dX6_find_28 (by decide) ?_
      exact X_X6_find_b29 C h
    · replace h := (if_neg c21).symm.trans h
      refine x_iconst C (v := 0) dX6_find_24 (by decide) ?_
      refine x_goto C (t := 29) dX6_find_25 (by decide) ?_
      exact X_X6_find_b29 C h
  · replace h := (if_pos c7).symm.trans h
    refine x_iconst C (v := 1) dX6_find_10 (by decide) ?_
    refine x_goto C (t := 29) dX6_find_11 (by decide) ?_
    exact X_X6_find_b29 C h
def X6_find (S : St) (x1 x2 x3 : Int32) : Option (Int32 × St) :=
  (X6_isHere S x1 x2).bind fun q4 => X6_find_b7 q4.2 x2 x3 q4.1
set_option maxHeartbeats 4000000 in
set_option maxRecDepth 100000 in
theorem X_X6_find {p : Program} {l : Launch} {e : Env} {s : State} {m : MethodId} {args : Array Value} {below : List Frame} {meth : Method} {c : Code} {D : va_G} {cI cZ cJ : ClassId} {ad : Nat → Nat} {rest w0 : va_W} (C : XC p rm_X6_find s m args meth c cX6_find 4 (some .int) RX6 wsX6_find D (t3 cI cZ cJ)) {S : St} {x1 x2 x3 : Int32} {r : Int32 × St} (h : X6_find S x1 x2 x3 = some r) : XW p l e rm_X6_find s m args below meth c D w0 4 (MQ below (QI D (t3 cI cZ cJ) w0 (wM cI cZ ad r.2 rest) s.heap.size r.1) args s 0 0 (va_A w0 s.heap.size)) (wM cI cZ ad S rest) 0 0 0 [(0, .ref (ad 0)), (1, .int x1), (2, .int x2), (3, .int x3)] [] := by
  unfold X6_find at h
  refine x_aload_n C 0 dX6_find_0 rfl ?_
  refine x_aload_n C 0 dX6_find_1 rfl ?_
  refine x_iload_n C 1 dX6_find_2 rfl ?_
  refine x_iload_n C 2 dX6_find_3 rfl ?_
  obtain ⟨⟨v4, S4⟩, hg4, h⟩ := ob h
  refine x_ci0 (x_runV C (As := [.int x1, .int x2]) (rest := [.ref (ad 0)]) (c_X6_isHere hg4) (cw_X6_find_X6_isHere_127 C) 0 rfl rfl rfl (Nat.le_of_ble_eq_true rfl) dX6_find_4 ⟨Nat.zero_le _, Nat.zero_le _⟩) ?_
  refine x_locals (lv' := [(0, .ref (ad 0)), (2, .int x2), (3, .int x3)]) [0, 2, 3] rfl ?_
  exact X_X6_find_b7 C h
set_option maxRecDepth 100000 in
theorem c_X6_find {l : Launch} {D : va_G} {cI cZ cJ : ClassId} {ad : Nat → Nat} {S : St} {rest : va_W} {x1 x2 x3 : Int32} {r : Int32 × St} (h : X6_find S x1 x2 x3 = some r) : ∀ sz, Met l yX6_find wsX6_find rm_X6_find (PC D (t3 cI cZ cJ) [.ref (ad 0), .int x1, .int x2, .int x3] (wM cI cZ ad S rest) sz) (QI D (t3 cI cZ cJ) (wM cI cZ ad S rest) (wM cI cZ ad r.2 rest) sz r.1) 0 0 (va_A (wM cI cZ ad S rest) sz) := by
  refine x_met (Qc := fun sz => QI D (t3 cI cZ cJ) (wM cI cZ ad S rest) (wM cI cZ ad r.2 rest) sz r.1) RX6 rfl (by decide) rfl (Nat.le_of_ble_eq_true rfl) (fun p e s m args below meth c C => ?_)
  exact X_X6_find C h
/-! EntryMastersModel.told(II)I -/
abbrev rm_X6_told : Room := { frames := 0, cells := 0, slots := 0, locals := 0 }
theorem hi_X6_told_6 : ∀ z ∈ u_ws RX6 TX6 26, z ∈ wsX6_told := by decide +kernel
theorem lk_X6_told_62 : Cond.fieldLink RX6 62 RX6 "there" "[Z" ∈ wsX6_told := by decide +kernel
theorem lk_X6_told_65 : Cond.fieldLink RX6 65 RX6 "parent" "[I" ∈ wsX6_told := by decide +kernel
theorem lk_X6_told_68 : Cond.fieldLink RX6 68 RX6 "label" "[I" ∈ wsX6_told := by decide +kernel
theorem lk_X6_told_71 : Cond.fieldLink RX6 71 RX6 "its" "[I" ∈ wsX6_told := by decide +kernel
theorem lk_X6_told_74 : Cond.fieldLink RX6 74 RX6 "value" "[I" ∈ wsX6_told := by decide +kernel
def X6_told_b67 (S : St) (s0 : Int32) : Option (Int32) :=
  some s0
set_option maxHeartbeats 4000000 in
set_option maxRecDepth 100000 in
theorem X_X6_told_b67 {p : Program} {l : Launch} {e : Env} {s : State} {m : MethodId} {args : Array Value} {below : List Frame} {meth : Method} {c : Code} {D : va_G} {cI cZ cJ : ClassId} {ad : Nat → Nat} {rest w0 : va_W} (C : XC p rm_X6_told s m args meth c cX6_told 3 (some .int) RX6 wsX6_told D (t3 cI cZ cJ)) {S : St} {s0 : Int32} {r : Int32} (h : X6_told_b67 S s0 = some r) : XW p l e rm_X6_told s m args below meth c D w0 3 (MQ below (QI D (t3 cI cZ cJ) w0 (wM cI cZ ad S rest) s.heap.size r) args s 0 0 (va_A w0 s.heap.size)) (wM cI cZ ad S rest) 0 0 67 [] [.int s0] := by
  unfold X6_told_b67 at h
  obtain rfl := Option.some.inj h
  exact x_iret C dX6_told_67
def X6_told (S : St) (x1 x2 : Int32) : Option (Int32) :=
  if inB x1 42 then (if (S 18 x1.toNatClampNeg) = 0 then (X6_told_b67 S (-9)) else (if x2 = 0 then (if inB x1 42 then (X6_told_b67 S (S 19 x1.toNatClampNeg)) else none) else (if x2 = 1 then (if inB x1 42 then (X6_told_b67 S (S 20 x1.toNatClampNeg)) else none) else (if x2 = 2 then (if inB x1 42 then (X6_told_b67 S (S 21 x1.toNatClampNeg)) else none) else (if inB (((4 * x1) + x2) - 3) 168 then (X6_told_b67 S (S 22 (((4 * x1) + x2) - 3).toNatClampNeg)) else none))))) else none
set_option maxHeartbeats 4000000 in
set_option maxRecDepth 100000 in
theorem X_X6_told {p : Program} {l : Launch} {e : Env} {s : State} {m : MethodId} {args : Array Value} {below : List Frame} {meth : Method} {c : Code} {D : va_G} {cI cZ cJ : ClassId} {ad : Nat → Nat} {rest w0 : va_W} (C : XC p rm_X6_told s m args meth c cX6_told 3 (some .int) RX6 wsX6_told D (t3 cI cZ cJ)) {S : St} {x1 x2 : Int32} {r : Int32} (h : X6_told S x1 x2 = some r) : XW p l e rm_X6_told s m args below meth c D w0 3 (MQ below (QI D (t3 cI cZ cJ) w0 (wM cI cZ ad S rest) s.heap.size r) args s 0 0 (va_A w0 s.heap.size)) (wM cI cZ ad S rest) 0 0 0 [(0, .ref (ad 0)), (1, .int x1), (2, .int x2)] [] := by
  unfold X6_told at h
  refine x_aload_n C 0 dX6_told_0 rfl ?_
  refine x_get C (R' := RX6) (T := TX6) (N := 26) (ci := 6) 0 19 rfl rfl (by decide) rfl rfl hi_X6_told_6 lk_X6_told_62 dX6_told_1 ?_
  refine x_iload_n C 1 dX6_told_4 rfl ?_
  obtain ⟨g5, h⟩ := gdB h
  refine x_zald C 18 rfl g5 dX6_told_5 ?_
  refine x_if_ne C (t := 14) dX6_told_6 (by decide) (fun c6 => ?_) (fun c6 => ?_)
  · replace h := (if_neg c6).symm.trans h
    refine x_iload_n C 2 dX6_told_14 rfl ?_
    refine x_if_ne C (t := 27) dX6_told_15 (by decide) (fun c15 => ?_) (fun c15 => ?_)
    · replace h := (if_neg c15).symm.trans h
      refine x_iload_n C 2 dX6_told_27 rfl ?_
      refine x_iconst C (v := 1) dX6_told_28 (by decide) ?_
      refine x_icmp_ne C (t := 41) dX6_told_29 (by decide) (fun c29 => ?_) (fun c29 => ?_)
      · replace h := (if_neg c29).symm.trans h
        refine x_iload_n C 2 dX6_told_41 rfl ?_
        refine x_iconst C (v := 2) dX6_told_42 (by decide) ?_
        refine x_icmp_ne C (t := 55) dX6_told_43 (by decide) (fun c43 => ?_) (fun c43 => ?_)
        · replace h := (if_neg c43).symm.trans h
          refine x_aload_n C 0 dX6_told_55 rfl ?_
          refine x_get C (R' := RX6) (T := TX6) (N := 26) (ci := 6) 0 23 rfl rfl (by decide) rfl rfl hi_X6_told_6 lk_X6_told_74 dX6_told_56 ?_
          refine x_iconst C (v := 4) dX6_told_59 (by decide) ?_
          refine x_iload_n C 1 dX6_told_60 rfl ?_
          refine x_imul C dX6_told_61 ?_
          refine x_iload_n C 2 dX6_told_62 rfl ?_
          refine x_iadd C dX6_told_63 ?_
          refine x_iconst C (v := 3) dX6_told_64 (by decide) ?_
          refine x_isub C dX6_told_65 ?_
          obtain ⟨g66, h⟩ := gdB h
          refine x_iald C 22 rfl g66 dX6_told_66 ?_
          refine x_locals (lv' := []) [] rfl ?_
          exact X_X6_told_b67 C h
        · replace h := (if_pos c43).symm.trans h
          refine x_aload_n C 0 dX6_told_46 rfl ?_
          refine x_get C (R' := RX6) (T := TX6) (N := 26) (ci := 6) 0 22 rfl rfl (by decide) rfl rfl hi_X6_told_6 lk_X6_told_71 dX6_told_47 ?_
          refine x_iload_n C 1 dX6_told_50 rfl ?_
          obtain ⟨g51, h⟩ := gdB h
          refine x_iald C 21 rfl g51 dX6_told_51 ?_
          refine x_goto C (t := 67) dX6_told_52 (by decide) ?_
          refine x_locals (lv' := []) [] rfl ?_
          exact X_X6_told_b67 C h
      · replace h := (if_pos c29).symm.trans h
        refine x_aload_n C 0 dX6_told_32 rfl ?_
        refine x_get C (R' := RX6) (T := TX6) (N := 26) (ci := 6) 0 21 rfl rfl (by decide) rfl rfl hi_X6_told_6 lk_X6_told_68 dX6_told_33 ?_
        refine x_iload_n C 1 dX6_told_36 rfl ?_
        obtain ⟨g37, h⟩ := gdB h
        refine x_iald C 20 rfl g37 dX6_told_37 ?_
        refine x_goto C (t := 67) dX6_told_38 (by decide) ?_
        refine x_locals (lv' := []) [] rfl ?_
        exact X_X6_told_b67 C h
    · replace h := (if_pos c15).symm.trans h
      refine x_aload_n C 0 dX6_told_18 rfl ?_
      refine x_get C (R' := RX6) (T := TX6) (N := 26) (ci := 6) 0 20 rfl rfl (by decide) rfl rfl hi_X6_told_6 lk_X6_told_65 dX6_told_19 ?_
      refine x_iload_n C 1 dX6_told_22 rfl ?_
      obtain ⟨g23, h⟩ := gdB h
      refine x_iald C 19 rfl g23 dX6_told_23 ?_
      refine x_goto C (t := 67) dX6_told_24 (by decide) ?_
      refine x_locals (lv' := []) [] rfl ?_
      exact X_X6_told_b67 C h
  · replace h := (if_pos c6).symm.trans h
    refine x_bipush C (v := (-9)) dX6_told_9 (by decide) ?_
    refine x_goto C (t := 67) dX6_told_11 (by decide) ?_
    refine x_locals (lv' := []) [] rfl ?_
    exact X_X6_told_b67 C h
set_option maxRecDepth 100000 in
theorem c_X6_told {l : Launch} {D : va_G} {cI cZ cJ : ClassId} {ad : Nat → Nat} {S : St} {rest : va_W} {x1 x2 : Int32} {r : Int32} (h : X6_told S x1 x2 = some r) : ∀ sz, Met l yX6_told wsX6_told rm_X6_told (PC D (t3 cI cZ cJ) [.ref (ad 0), .int x1, .int x2] (wM cI cZ ad S rest) sz) (QI D (t3 cI cZ cJ) (wM cI cZ ad S rest) (wM cI cZ ad S rest) sz r) 0 0 (va_A (wM cI cZ ad S rest) sz) := by
  refine x_met (Qc := fun sz => QI D (t3 cI cZ cJ) (wM cI cZ ad S rest) (wM cI cZ ad S rest) sz r) RX6 rfl (by decide) rfl (Nat.le_of_ble_eq_true rfl) (fun p e s m args below meth c C => ?_)
  exact X_X6_told C h
/-! EntryMastersModel.areAlike()Z -/
abbrev rm_X6_areAlike : Room := { frames := 5, cells := 0, slots := 0, locals := 114 }
theorem hi_X6_areAlike_6 : ∀ z ∈ u_ws RX6 TX6 26, z ∈ wsX6_areAlike := by decide +kernel
theorem lk_X6_areAlike_77 : Cond.fieldLink RX6 77 RX6 "other" "[I" ∈ wsX6_areAlike := by decide +kernel
theorem lk_X6_areAlike_80 : Cond.fieldLink RX6 80 RX6 "thrown" "I" ∈ wsX6_areAlike := by decide +kernel
theorem cw_X6_areAlike_X6_grows_124 {p : Program} {s : State} {m : MethodId} {args : Array Value} {meth : Method} {c : Code} {D : va_G} {tys : List (ClassId × FieldType)} {R : Room} (C : XC p R s m args meth c cX6_areAlike 3 (some .boolean) RX6 wsX6_areAlike D tys) : CallW rm_X6_areAlike s args RX6 RX6 124 yX6_grows cX6_grows 4 none wsX6_grows rm_X6_grows 0 0 1 := cwV 1 C.2.2.2.2.1 gX6_areAlike_X6_grows rfl rfl rfl (by decide +kernel) ⟨Nat.le_of_ble_eq_true rfl, Nat.le_of_ble_eq_true rfl⟩
theorem cw_X6_areAlike_X6_told_143 {p : Program} {s : State} {m : MethodId} {args : Array Value} {meth : Method} {c : Code} {D : va_G} {tys : List (ClassId × FieldType)} {R : Room} (C : XC p R s m args meth c cX6_areAlike 3 (some .boolean) RX6 wsX6_areAlike D tys) : CallW rm_X6_areAlike s args RX6 RX6 143 yX6_told cX6_told 3 (some .int) wsX6_told rm_X6_told 0 0 2 := cwV 2 C.2.2.2.2.1 gX6_areAlike_X6_told rfl rfl rfl (by decide +kernel) ⟨Nat.le_of_ble_eq_true rfl, Nat.le_of_ble_eq_true rfl⟩
def X6_areAlike_b94 (S : St) (x1 : Int32) : Option (Int32 × St) :=
  if x1 &&& 1 = x1 then (some (x1, S)) else none
set_option maxHeartbeats 4000000 in
set_option maxRecDepth 100000 in
theorem X_X6_areAlike_b94 {p : Program} {l : Launch} {e : Env} {s : State} {m : MethodId} {args : Array Value} {below : List Frame} {meth : Method} {c : Code} {D : va_G} {cI cZ cJ : ClassId} {ad : Nat → Nat} {rest w0 : va_W} (C : XC p rm_X6_areAlike s m args meth c cX6_areAlike 3 (some .boolean) RX6 wsX6_areAlike D (t3 cI cZ cJ)) {S : St} {x1 : Int32} {r : Int32 × St} (h : X6_areAlike_b94 S x1 = some r) : XW p l e rm_X6_areAlike s m args below meth c D w0 3 (MQ below (QI D (t3 cI cZ cJ) w0 (wM cI cZ ad r.2 rest) s.heap.size r.1) args s 0 0 (va_A w0 s.heap.size)) (wM cI cZ ad S rest) 0 0 94 [(1, .int x1)] [] := by
  unfold X6_areAlike_b94 at h
  refine x_iload_n C 0 dX6_areAlike_94 rfl ?_
  obtain ⟨g95, h⟩ := gd h
  obtain rfl := Option.some.inj h
  exact x_zret C g95 dX6_areAlike_95
def X6_areAlike_b86 (S : St) (x2 s0 s1 : Int32) : Option ((St × Int32 × Int32) ⊕ (Int32 × St)) :=
  some (.inl (S, s1 &&& s0, x2 + 1))
set_option maxHeartbeats 4000000 in
set_option maxRecDepth 100000 in
theorem X_X6_areAlike_b86 {p : Program} {l : Launch} {e : Env} {s : State} {m : MethodId} {args : Array Value} {below : List Frame} {meth : Method} {c : Code} {D : va_G} {cI cZ cJ : ClassId} {ad : Nat → Nat} {rest w0 : va_W} (C : XC p rm_X6_areAlike s m args meth c cX6_areAlike 3 (some .boolean) RX6 wsX6_areAlike D (t3 cI cZ cJ)) {S : St} {x2 s0 s1 : Int32} {z : (St × Int32 × Int32) ⊕ (Int32 × St)} {r : Int32 × St} (h : X6_areAlike_b86 S x2 s0 s1 = some z) (hk : ∀ a' : (St × Int32 × Int32), z = .inl a' → XW p l e rm_X6_areAlike s m args below meth c D w0 3 (MQ below (QI D (t3 cI cZ cJ) w0 (wM cI cZ ad r.2 rest) s.heap.size r.1) args s 0 0 (va_A w0 s.heap.size)) (wM cI cZ ad a'.1 rest) 0 0 52 [(0, .ref (ad 0)), (1, .int a'.2.1), (2, .int a'.2.2)] []) (hr : ∀ r', z = .inr r' → r' = r) : XW p l e rm_X6_areAlike s m args below meth c D w0 3 (MQ below (QI D (t3 cI cZ cJ) w0 (wM cI cZ ad r.2 rest) s.heap.size r.1) args s 0 0 (va_A w0 s.heap.size)) (wM cI cZ ad S rest) 0 0 86 [(0, .ref (ad 0)), (2, .int x2)] [.int s0, .int s1] := by
  unfold X6_areAlike_b86 at h
  refine x_iand C dX6_areAlike_86 ?_
  refine x_istore_n C (lv' := [(0, .ref (ad 0)), (1, .int (s1 &&& s0)), (2, .int x2)]) dX6_areAlike_87 (by decide) rfl ?_
  refine x_iinc C (v := x2 + 1) (lv' := [(0, .ref (ad 0)), (1, .int (s1 &&& s0)), (2, .int (x2 + 1))]) 2 dX6_areAlike_88 rfl rfl (by decide) rfl ?_
  refine x_goto C (t := 52) dX6_areAlike_91 (by decide) ?_
  exact hk _ (Option.some.inj h).symm
def X6_areAlike_H52 (S : St) (x1 x2 : Int32) : Option ((St × Int32 × Int32) ⊕ (Int32 × St)) :=
  if 294 ≤ x2 then (exI (X6_areAlike_b94 S x1)) else (if inB x2 294 then ((X6_told S (x2 / 7) (x2 - x2 / 7 * 7)).bind fun v75 => if (S 23 x2.toNatClampNeg) = v75 then (X6_areAlike_b86 S x2 1 x1) else (X6_areAlike_b86 S x2 0 x1)) else none)
set_option maxHeartbeats 4000000 in
set_option maxRecDepth 100000 in
theorem X_X6_areAlike_H52 {p : Program} {l : Launch} {e : Env} {s : State} {m : MethodId} {args : Array Value} {below : List Frame} {meth : Method} {c : Code} {D : va_G} {cI cZ cJ : ClassId} {ad : Nat → Nat} {rest w0 : va_W} (C : XC p rm_X6_areAlike s m args meth c cX6_areAlike 3 (some .boolean) RX6 wsX6_areAlike D (t3 cI cZ cJ)) {S : St} {x1 x2 : Int32} {z : (St × Int32 × Int32) ⊕ (Int32 × St)} {r : Int32 × St} (h : X6_areAlike_H52 S x1 x2 = some z) (hk : ∀ a' : (St × Int32 × Int32), z = .inl a' → XW p l e rm_X6_areAlike s m args below meth c D w0 3 (MQ below (QI D (t3 cI cZ cJ) w0 (wM cI cZ ad r.2 rest) s.heap.size r.1) args s 0 0 (va_A w0 s.heap.size)) (wM cI cZ ad a'.1 rest) 0 0 52 [(0, .ref (ad 0)), (1, .int a'.2.1), (2, .int a'.2.2)] []) (hr : ∀ r', z = .inr r' → r' = r) : XW p l e rm_X6_areAlike s m args below meth c D w0 3 (MQ below (QI D (t3 cI cZ cJ) w0 (wM cI cZ ad r.2 rest) s.heap.size r.1) args s 0 0 (va_A w0 s.heap.size)) (wM cI cZ ad S rest) 0 0 52 [(0, .ref (ad 0)), (1, .int x1), (2, .int x2)] [] := by
  unfold X6_areAlike_H52 at h
  refine x_iload_n C 2 dX6_areAlike_52 rfl ?_
  refine x_sipush C (v := 294) dX6_areAlike_53 (by decide) ?_
  refine x_icmp_ge C (t := 94) dX6_areAlike_56 (by decide) (fun c56 => ?_) (fun c56 => ?_)
  · replace h := (if_pos c56).symm.trans h
    refine x_locals (lv' := [(1, .int x1)]) [1] rfl ?_
    obtain ⟨r1, h1, h2⟩ := exI_some h
    obtain rfl := hr r1 h2
    exact X_X6_areAlike_b94 C h1
  · replace h := (if_neg c56).symm.trans h
    refine x_iload_n C 1 dX6_areAlike_59 rfl ?_
    refine x_aload_n C 0 dX6_areAlike_60 rfl ?_
    refine x_get C (R' := RX6) (T := TX6) (N := 26) (ci := 6) 0 24 rfl rfl (by decide) rfl rfl hi_X6_areAlike_6 lk_X6_areAlike_77 dX6_areAlike_61 ?_
    refine x_iload_n C 2 dX6_areAlike_64 rfl ?_
    obtain ⟨g65, h⟩ := gdB h
    refine x_iald C 23 rfl g65 dX6_areAlike_65 ?_
    refine x_aload_n C 0 dX6_areAlike_66 rfl ?_
    refine x_iload_n C 2 dX6_areAlike_67 rfl ?_
    refine x_bipush C (v := 7) dX6_areAlike_68 (by decide) ?_
    refine x_idiv C dX6_areAlike_70 (by decide) ?_
    refine x_iload_n C 2 dX6_areAlike_71 rfl ?_
    refine x_bipush C (v := 7) dX6_areAlike_72 (by decide) ?_
    refine x_irem C dX6_areAlike_74 (by decide) ?_
    obtain ⟨v75, hg75, h⟩ := ob h
    refine x_ci0 (x_runV C (As := [.int (x2 / 7), .int (x2 - x2 / 7 * 7)]) (rest := [.int (S 23 x2.toNatClampNeg), .int x1]) (c_X6_told hg75) (cw_X6_areAlike_X6_told_143 C) 0 rfl rfl rfl (Nat.le_of_ble_eq_true rfl) dX6_areAlike_75 ⟨Nat.zero_le _, Nat.zero_le _⟩) ?_
    refine x_icmp_ne C (t := 85) dX6_areAlike_78 (by decide) (fun c78 => ?_) (fun c78 => ?_)
    · replace h := (if_neg c78).symm.trans h
      refine x_iconst C (v := 0) dX6_areAlike_85 (by decide) ?_
      refine x_locals (lv' := [(0, .ref (ad 0)), (2, .int x2)]) [0, 2] rfl ?_
      exact X_X6_areAlike_b86 C h hk hr
    · replace h := (if_pos c78).symm.trans h
      refine x_iconst C (v := 1) dX6_areAlike_81 (by decide) ?_
      refine x_goto C (t := 86) dX6_areAlike_82 (by decide) ?_
      refine x_locals (lv' := [(0, .ref (ad 0)), (2, .int x2)]) [0, 2] rfl ?_
      exact X_X6_areAlike_b86 C h hk hr
def X6_areAlike_L52 (S : St) (x1 x2 : Int32) : Option (Int32 × St) := wloop (fun a' : (St × Int32 × Int32) => X6_areAlike_H52 a'.1 a'.2.1 a'.2.2) 1000 (S, x1, x2)
set_option maxHeartbeats 4000000 in
set_option maxRecDepth 100000 in
theorem X_X6_areAlike_L52 {p : Program} {l : Launch} {e : Env} {s : State} {m : MethodId} {args : Array Value} {below : List Frame} {meth : Method} {c : Code} {D : va_G} {cI cZ cJ : ClassId} {ad : Nat → Nat} {rest w0 : va_W} (C : XC p rm_X6_areAlike s m args meth c cX6_areAlike 3 (some .boolean) RX6 wsX6_areAlike D (t3 cI cZ cJ)) {S : St} {x1 x2 : Int32} {r : Int32 × St} (h : X6_areAlike_L52 S x1 x2 = some r) : XW p l e rm_X6_areAlike s m args below meth c D w0 3 (MQ below (QI D (t3 cI cZ cJ) w0 (wM cI cZ ad r.2 rest) s.heap.size r.1) args s 0 0 (va_A w0 s.heap.size)) (wM cI cZ ad S rest) 0 0 52 [(0, .ref (ad 0)), (1, .int x1), (2, .int x2)] [] :=
  wloop_met (P := (fun a' : (St × Int32 × Int32) => XW p l e rm_X6_areAlike s m args below meth c D w0 3 (MQ below (QI D (t3 cI cZ cJ) w0 (wM cI cZ ad r.2 rest) s.heap.size r.1) args s 0 0 (va_A w0 s.heap.size)) (wM cI cZ ad a'.1 rest) 0 0 52 [(0, .ref (ad 0)), (1, .int a'.2.1), (2, .int a'.2.2)] [])) (fun _ _ hz hk hr => X_X6_areAlike_H52 C hz hk hr) 1000 (S, x1, x2) h
def X6_areAlike_b48 (S : St) : Option (Int32 × St) :=
  X6_areAlike_L52 S 1 0
set_option maxHeartbeats 4000000 in
set_option maxRecDepth 100000 in
theorem X_X6_areAlike_b48 {p : Program} {l : Launch} {e : Env} {s : State} {m : MethodId} {args : Array Value} {below : List Frame} {meth : Method} {c : Code} {D : va_G} {cI cZ cJ : ClassId} {ad : Nat → Nat} {rest w0 : va_W} (C : XC p rm_X6_areAlike s m args meth c cX6_areAlike 3 (some .boolean) RX6 wsX6_areAlike D (t3 cI cZ cJ)) {S : St} {r : Int32 × St} (h : X6_areAlike_b48 S = some r) : XW p l e rm_X6_areAlike s m args below meth c D w0 3 (MQ below (QI D (t3 cI cZ cJ) w0 (wM cI cZ ad r.2 rest) s.heap.size r.1) args s 0 0 (va_A w0 s.heap.size)) (wM cI cZ ad S rest) 0 0 48 [(0, .ref (ad 0))] [] := by
  unfold X6_areAlike_b48 at h
  refine x_iconst C (v := 1) dX6_areAlike_48 (by decide) ?_
  refine x_istore_n C (lv' := [(0, .ref (ad 0)), (1, .int 1)]) dX6_areAlike_49 (by decide) rfl ?_
  refine x_iconst C (v := 0) dX6_areAlike_50 (by decide) ?_
  refine x_istore_n C (lv' := [(0, .ref (ad 0)), (1, .int 1), (2, .int 0)]) dX6_areAlike_51 (by decide) rfl ?_
  exact X_X6_areAlike_L52 C h
def X6_areAlike_b43 (S : St) : Option (Int32 × St) :=
  (X6_grows S 1).bind fun S45 => X6_areAlike_b48 S45
set_option maxHeartbeats 4000000 in
set_option maxRecDepth 100000 in
theorem X_X6_areAlike_b43 {p : Program} {l : Launch} {e : Env} {s : State} {m : MethodId} {args : Array Value} {below : List Frame} {meth : Method} {c : Code} {D : va_G} {cI cZ cJ : ClassId} {ad : Nat → Nat} {rest w0 : va_W} (C : XC p rm_X6_areAlike s m args meth c cX6_areAlike 3 (some .boolean) RX6 wsX6_areAlike D (t3 cI cZ cJ)) {S : St} {r : Int32 × St} (h : X6_areAlike_b43 S = some r) : XW p l e rm_X6_areAlike s m args below meth c D w0 3 (MQ below (QI D (t3 cI cZ cJ) w0 (wM cI cZ ad r.2 rest) s.heap.size r.1) args s 0 0 (va_A w0 s.heap.size)) (wM cI cZ ad S rest) 0 0 43 [(0, .ref (ad 0))] [] := by
  unfold X6_areAlike_b43 at h
  refine x_aload_n C 0 dX6_areAlike_43 rfl ?_
  refine x_iconst C (v := 1) dX6_areAlike_44 (by decide) ?_
  obtain ⟨S45, hg45, h⟩ := ob h
  refine x_cv0 (x_runV C (As := [.int 1]) (rest := []) (c_X6_grows hg45) (cw_X6_areAlike_X6_grows_124 C) 0 rfl rfl rfl (Nat.le_of_ble_eq_true rfl) dX6_areAlike_45 ⟨Nat.zero_le _, Nat.zero_le _⟩) ?_
  exact X_X6_areAlike_b48 C h
def X6_areAlike_b37 (S : St) (x1 : Int32) : Option ((St × Int32) ⊕ (Int32 × St)) :=
  some (.inl (S, x1 + 1))
set_option maxHeartbeats 4000000 in
set_option maxRecDepth 100000 in
theorem X_X6_areAlike_b37 {p : Program} {l : Launch} {e : Env} {s : State} {m : MethodId} {args : Array Value} {below : List Frame} {meth : Method} {c : Code} {D : va_G} {cI cZ cJ : ClassId} {ad : Nat → Nat} {rest w0 : va_W} (C : XC p rm_X6_areAlike s m args meth c cX6_areAlike 3 (some .boolean) RX6 wsX6_areAlike D (t3 cI cZ cJ)) {S : St} {x1 : Int32} {z : (St × Int32) ⊕ (Int32 × St)} {r : Int32 × St} (h : X6_areAlike_b37 S x1 = some z) (hk : ∀ a' : (St × Int32), z = .inl a' → XW p l e rm_X6_areAlike s m args below meth c D w0 3 (MQ below (QI D (t3 cI cZ cJ) w0 (wM cI cZ ad r.2 rest) s.heap.size r.1) args s 0 0 (va_A w0 s.heap.size)) (wM cI cZ ad a'.1 rest) 0 0 12 [(0, .ref (ad 0)), (1, .int a'.2)] []) (hr : ∀ r', z = .inr r' → r' = r) : XW p l e rm_X6_areAlike s m args below meth c D w0 3 (MQ below (QI D (t3 cI cZ cJ) w0 (wM cI cZ ad r.2 rest) s.heap.size r.1) args s 0 0 (va_A w0 s.heap.size)) (wM cI cZ ad S rest) 0 0 37 [(0, .ref (ad 0)), (1, .int x1)] [] := by
  unfold X6_areAlike_b37 at h
  refine x_iinc C (v := x1 + 1) (lv' := [(0, .ref (ad 0)), (1, .int (x1 + 1))]) 1 dX6_areAlike_37 rfl rfl (by decide) rfl ?_
  refine x_goto C (t := 12) dX6_areAlike_40 (by decide) ?_
  exact hk _ (Option.some.inj h).symm
def X6_areAlike_H12 (S : St) (x1 : Int32) : Option ((St × Int32) ⊕ (Int32 × St)) :=
  if 294 ≤ x1 then (exI (X6_areAlike_b43 S)) else ((X6_told S (x1 / 7) (x1 - x1 / 7 * 7)).bind fun v33 => if inB x1 294 then (X6_areAlike_b37 (up S 23 (upd (S 23) x1.toNatClampNeg v33)) x1) else none)
set_option maxHeartbeats 4000000 in
set_option maxRecDepth 100000 in
theorem X_X6_areAlike_H12 {p : Program} {l : Launch} {e : Env} {s : State} {m : MethodId} {args : Array Value} {below : List Frame} {meth : Method} {c : Code} {D : va_G} {cI cZ cJ : ClassId} {ad : Nat → Nat} {rest w0 : va_W} (C : XC p rm_X6_areAlike s m args meth c cX6_areAlike 3 (some .boolean) RX6 wsX6_areAlike D (t3 cI cZ cJ)) {S : St} {x1 : Int32} {z : (St × Int32) ⊕ (Int32 × St)} {r : Int32 × St} (h : X6_areAlike_H12 S x1 = some z) (hk : ∀ a' : (St × Int32), z = .inl a' → XW p l e rm_X6_areAlike s m args below meth c D w0 3 (MQ below (QI D (t3 cI cZ cJ) w0 (wM cI cZ ad r.2 rest) s.heap.size r.1) args s 0 0 (va_A w0 s.heap.size)) (wM cI cZ ad a'.1 rest) 0 0 12 [(0, .ref (ad 0)), (1, .int a'.2)] []) (hr : ∀ r', z = .inr r' → r' = r) : XW p l e rm_X6_areAlike s m args below meth c D w0 3 (MQ below (QI D (t3 cI cZ cJ) w0 (wM cI cZ ad r.2 rest) s.heap.size r.1) args s 0 0 (va_A w0 s.heap.size)) (wM cI cZ ad S rest) 0 0 12 [(0, .ref (ad 0)), (1, .int x1)] [] := by
  unfold X6_areAlike_H12 at h
  refine x_iload_n C 1 dX6_areAlike_12 rfl ?_
  refine x_sipush C (v := 294) dX6_areAlike_13 (by decide) ?_
  refine x_icmp_ge C (t := 43) dX6_areAlike_16 (by decide) (fun c16 => ?_) (fun c16 => ?_)
  · replace h := (if_pos c16).symm.trans h
    refine x_locals (lv' := [(0, .ref (ad 0))]) [0] rfl ?_
    obtain ⟨r1, h1, h2⟩ := exI_some h
    obtain rfl := hr r1 h2
    exact X_X6_areAlike_b43 C h1
  · replace h := (if_neg c16).symm.trans h
    refine x_aload_n C 0 dX6_areAlike_19 rfl ?_
    refine x_get C (R' := RX6) (T := TX6) (N := 26) (ci := 6) 0 24 rfl rfl (by decide) rfl rfl hi_X6_areAlike_6 lk_X6_areAlike_77 dX6_areAlike_20 ?_
    refine x_iload_n C 1 dX6_areAlike_23 rfl ?_
    refine x_aload_n C 0 dX6_areAlike_24 rfl ?_
    refine x_iload_n C 1 dX6_areAlike_25 rfl ?_
    refine x_bipush C (v := 7) dX6_areAlike_26 (by decide) ?_
    refine x_idiv C dX6_areAlike_28 (by decide) ?_
    refine x_iload_n C 1 dX6_areAlike_29 rfl ?_
    refine x_bipush C (v := 7) dX6_areAlike_30 (by decide) ?_
    refine x_irem C dX6_areAlike_32 (by decide) ?_
    obtain ⟨v33, hg33, h⟩ := ob h
    refine x_ci0 (x_runV C (As := [.int (x1 / 7), .int (x1 - x1 / 7 * 7)]) (rest := [.int x1, .ref (ad 23)]) (c_X6_told hg33) (cw_X6_areAlike_X6_told_143 C) 0 rfl rfl rfl (Nat.le_of_ble_eq_true rfl) dX6_areAlike_33 ⟨Nat.zero_le _, Nat.zero_le _⟩) ?_
    obtain ⟨g36, h⟩ := gdB h
    refine x_iast C 23 rfl g36 dX6_areAlike_36 (wM_s23 cI cZ ad S rest (upd (S 23) x1.toNatClampNeg v33)) ?_
    exact X_X6_areAlike_b37 C h hk hr
def X6_areAlike_L12 (S : St) (x1 : Int32) : Option (Int32 × St) := wloop (fun a' : (St × Int32) => X6_areAlike_H12 a'.1 a'.2) 1000 (S, x1)
set_option maxHeartbeats 4000000 in
set_option maxRecDepth 100000 in
theorem X_X6_areAlike_L12 {p : Program} {l : Launch} {e : Env} {s : State} {m : MethodId} {args : Array Value} {below : List Frame} {meth : Method} {c : Code} {D : va_G} {cI cZ cJ : ClassId} {ad : Nat → Nat} {rest w0 : va_W} (C : XC p rm_X6_areAlike s m args meth c cX6_areAlike 3 (some .boolean) RX6 wsX6_areAlike D (t3 cI cZ cJ)) {S : St} {x1 : Int32} {r : Int32 × St} (h : X6_areAlike_L12 S x1 = some r) : XW p l e rm_X6_areAlike s m args below meth c D w0 3 (MQ below (QI D (t3 cI cZ cJ) w0 (wM cI cZ ad r.2 rest) s.heap.size r.1) args s 0 0 (va_A w0 s.heap.size)) (wM cI cZ ad S rest) 0 0 12 [(0, .ref (ad 0)), (1, .int x1)] [] :=
  wloop_met (P := (fun a' : (St × Int32) => XW p l e rm_X6_areAlike s m args below meth c D w0 3 (MQ below (QI D (t3 cI cZ cJ) w0 (wM cI cZ ad r.2 rest) s.heap.size r.1) args s 0 0 (va_A w0 s.heap.size)) (wM cI cZ ad a'.1 rest) 0 0 12 [(0, .ref (ad 0)), (1, .int a'.2)] [])) (fun _ _ hz hk hr => X_X6_areAlike_H12 C hz hk hr) 1000 (S, x1) h
def X6_areAlike_b10 (S : St) : Option (Int32 × St) :=
  X6_areAlike_L12 S 0
set_option maxHeartbeats 4000000 in
set_option maxRecDepth 100000 in
theorem X_X6_areAlike_b10 {p : Program} {l : Launch} {e : Env} {s : State} {m : MethodId} {args : Array Value} {below : List Frame} {meth : Method} {c : Code} {D : va_G} {cI cZ cJ : ClassId} {ad : Nat → Nat} {rest w0 : va_W} (C : XC p rm_X6_areAlike s m args meth c cX6_areAlike 3 (some .boolean) RX6 wsX6_areAlike D (t3 cI cZ cJ)) {S : St} {r : Int32 × St} (h : X6_areAlike_b10 S = some r) : XW p l e rm_X6_areAlike s m args below meth c D w0 3 (MQ below (QI D (t3 cI cZ cJ) w0 (wM cI cZ ad r.2 rest) s.heap.size r.1) args s 0 0 (va_A w0 s.heap.size)) (wM cI cZ ad S rest) 0 0 10 [(0, .ref (ad 0))] [] := by
  unfold X6_areAlike_b10 at h
  refine x_iconst C (v := 0) dX6_areAlike_10 (by decide) ?_
  refine x_istore_n C (lv' := [(0, .ref (ad 0)), (1, .int 0)]) dX6_areAlike_11 (by decide) rfl ?_
  exact X_X6_areAlike_L12 C h
def X6_areAlike_b5 (S : St) : Option (Int32 × St) :=
  (X6_grows S 0).bind fun S7 => X6_areAlike_b10 S7
set_option maxHeartbeats 4000000 in
set_option maxRecDepth 100000 in
theorem X_X6_areAlike_b5 {p : Program} {l : Launch} {e : Env} {s : State} {m : MethodId} {args : Array Value} {below : List Frame} {meth : Method} {c : Code} {D : va_G} {cI cZ cJ : ClassId} {ad : Nat → Nat} {rest w0 : va_W} (C : XC p rm_X6_areAlike s m args meth c cX6_areAlike 3 (some .boolean) RX6 wsX6_areAlike D (t3 cI cZ cJ)) {S : St} {r : Int32 × St} (h : X6_areAlike_b5 S = some r) : XW p l e rm_X6_areAlike s m args below meth c D w0 3 (MQ below (QI D (t3 cI cZ cJ) w0 (wM cI cZ ad r.2 rest) s.heap.size r.1) args s 0 0 (va_A w0 s.heap.size)) (wM cI cZ ad S rest) 0 0 5 [(0, .ref (ad 0))] [] := by
  unfold X6_areAlike_b5 at h
  refine x_aload_n C 0 dX6_areAlike_5 rfl ?_
  refine x_iconst C (v := 0) dX6_areAlike_6 (by decide) ?_
  obtain ⟨S7, hg7, h⟩ := ob h
  refine x_cv0 (x_runV C (As := [.int 0]) (rest := []) (c_X6_grows hg7) (cw_X6_areAlike_X6_grows_124 C) 0 rfl rfl rfl (Nat.le_of_ble_eq_true rfl) dX6_areAlike_7 ⟨Nat.zero_le _, Nat.zero_le _⟩) ?_
  exact X_X6_areAlike_b10 C h
def X6_areAlike (S : St) : Option (Int32 × St) :=
  X6_areAlike_b5 (up S 0 (upd (S 0) 25 0))
set_option maxHeartbeats 4000000 in
set_option maxRecDepth 100000 in
theorem X_X6_areAlike {p : Program} {l : Launch} {e : Env} {s : State} {m : MethodId} {args : Array Value} {below : List Frame} {meth : Method} {c : Code} {D : va_G} {cI cZ cJ : ClassId} {ad : Nat → Nat} {rest w0 : va_W} (C : XC p rm_X6_areAlike s m args meth c cX6_areAlike 3 (some .boolean) RX6 wsX6_areAlike D (t3 cI cZ cJ)) {S : St} {r : Int32 × St} (h : X6_areAlike S = some r) : XW p l e rm_X6_areAlike s m args below meth c D w0 3 (MQ below (QI D (t3 cI cZ cJ) w0 (wM cI cZ ad r.2 rest) s.heap.size r.1) args s 0 0 (va_A w0 s.heap.size)) (wM cI cZ ad S rest) 0 0 0 [(0, .ref (ad 0))] [] := by
  unfold X6_areAlike at h
  refine x_aload_n C 0 dX6_areAlike_0 rfl ?_
  refine x_iconst C (v := 0) dX6_areAlike_1 (by decide) ?_
  refine x_put C (R' := RX6) (T := TX6) (N := 26) (ci := 6) tyX6 tyX6_ok nmX6 0 25 rfl rfl (by decide) rfl rfl (lt_ble rfl) rfl hi_X6_areAlike_6 lk_X6_areAlike_80 dX6_areAlike_2 (wM_f0_25 cI cZ ad S rest 0) ?_
  exact X_X6_areAlike_b5 C h
set_option maxRecDepth 100000 in
theorem c_X6_areAlike {l : Launch} {D : va_G} {cI cZ cJ : ClassId} {ad : Nat → Nat} {S : St} {rest : va_W} {r : Int32 × St} (h : X6_areAlike S = some r) : ∀ sz, Met l yX6_areAlike wsX6_areAlike rm_X6_areAlike (PC D (t3 cI cZ cJ) [.ref (ad 0)] (wM cI cZ ad S rest) sz) (QI D (t3 cI cZ cJ) (wM cI cZ ad S rest) (wM cI cZ ad r.2 rest) sz r.1) 0 0 (va_A (wM cI cZ ad S rest) sz) := by
  refine x_met (Qc := fun sz => QI D (t3 cI cZ cJ) (wM cI cZ ad S rest) (wM cI cZ ad r.2 rest) sz r.1) RX6 rfl (by decide) rfl (Nat.le_of_ble_eq_true rfl) (fun p e s m args below meth c C => ?_)
  exact X_X6_areAlike C h
/-! EntryMastersModel.setRight(III)V -/
abbrev rm_X6_setRight : Room := { frames := 1, cells := 0, slots := 0, locals := 22 }
theorem hi_X6_setRight_6 : ∀ z ∈ u_ws RX6 TX6 26, z ∈ wsX6_setRight := by decide +kernel
theorem lk_X6_setRight_43 : Cond.fieldLink RX6 43 RX6 "right" "[I" ∈ wsX6_setRight := by decide +kernel
theorem lk_X6_setRight_80 : Cond.fieldLink RX6 80 RX6 "thrown" "I" ∈ wsX6_setRight := by decide +kernel
theorem cw_X6_setRight_X6_isIn_84 {p : Program} {s : State} {m : MethodId} {args : Array Value} {meth : Method} {c : Code} {D : va_G} {tys : List (ClassId × FieldType)} {R : Room} (C : XC p R s m args meth c cX6_setRight 4 none RX6 wsX6_setRight D tys) : CallB rm_X6_setRight s args RX6 84 yX6_isIn cX6_isIn 3 (some .boolean) wsX6_isIn rm_X6_isIn 0 0 3 ∧ (Cond.static yX6_isIn).before args s = true := va_cwS 3 C.2.2.2.2.1 gX6_setRight_X6_isIn rfl rfl rfl (by decide +kernel) ⟨Nat.le_of_ble_eq_true rfl, Nat.le_of_ble_eq_true rfl⟩
def X6_setRight_b60 (S : St) : Option (St) :=
  some S
set_option maxHeartbeats 4000000 in
set_option maxRecDepth 100000 in
theorem X_X6_setRight_b60 {p : Program} {l : Launch} {e : Env} {s : State} {m : MethodId} {args : Array Value} {below : List Frame} {meth : Method} {c : Code} {D : va_G} {cI cZ cJ : ClassId} {ad : Nat → Nat} {rest w0 : va_W} (C : XC p rm_X6_setRight s m args meth c cX6_setRight 4 none RX6 wsX6_setRight D (t3 cI cZ cJ)) {S : St} {r : St} (h : X6_setRight_b60 S = some r) : XW p l e rm_X6_setRight s m args below meth c D w0 4 (MQ below (QV D (t3 cI cZ cJ) w0 (wM cI cZ ad r rest) s.heap.size) args s 0 0 (va_A w0 s.heap.size)) (wM cI cZ ad S rest) 0 0 60 [] [] := by
  unfold X6_setRight_b60 at h
  obtain rfl := Option.some.inj h
  exact x_vret C dX6_setRight_60
def X6_setRight_b41 (S : St) (x1 x2 x3 : Int32) : Option (St) :=
  if (S 0 25) = 0 then (if inB ((42 * x1) + x2) 126 then (X6_setRight_b60 (up S 12 (upd (S 12) ((42 * x1) + x2).toNatClampNeg x3))) else none) else (X6_setRight_b60 S)
set_option maxHeartbeats 4000000 in
set_option maxRecDepth 100000 in
theorem X_X6_setRight_b41 {p : Program} {l : Launch} {e : Env} {s : State} {m : MethodId} {args : Array Value} {below : List Frame} {meth : Method} {c : Code} {D : va_G} {cI cZ cJ : ClassId} {ad : Nat → Nat} {rest w0 : va_W} (C : XC p rm_X6_setRight s m args meth c cX6_setRight 4 none RX6 wsX6_setRight D (t3 cI cZ cJ)) {S : St} {x1 x2 x3 : Int32} {r : St} (h : X6_setRight_b41 S x1 x2 x3 = some r) : XW p l e rm_X6_setRight s m args below meth c D w0 4 (MQ below (QV D (t3 cI cZ cJ) w0 (wM cI cZ ad r rest) s.heap.size) args s 0 0 (va_A w0 s.heap.size)) (wM cI cZ ad S rest) 0 0 41 [(0, .ref (ad 0)), (1, .int x1), (2, .int x2), (3, .int x3)] [] := by
  unfold X6_setRight_b41 at h
  refine x_aload_n C 0 dX6_setRight_41 rfl ?_
  refine x_get C (R' := RX6) (T := TX6) (N := 26) (ci := 6) 0 25 rfl rfl (by decide) rfl rfl hi_X6_setRight_6 lk_X6_setRight_80 dX6_setRight_42 ?_
  refine x_if_ne C (t := 60) dX6_setRight_45 (by decide) (fun c45 => ?_) (fun c45 => ?_)
  · replace h := (if_neg c45).symm.trans h
    refine x_locals (lv' := []) [] rfl ?_
    exact X_X6_setRight_b60 C h
  · replace h := (if_pos c45).symm.trans h
    refine x_aload_n C 0 dX6_setRight_48 rfl ?_
    refine x_get C (R' := RX6) (T := TX6) (N := 26) (ci := 6) 0 12 rfl rfl (by decide) rfl rfl hi_X6_setRight_6 lk_X6_setRight_43 dX6_setRight_49 ?_
    refine x_bipush C (v := 42) dX6_setRight_52 (by decide) ?_
    refine x_iload_n C 1 dX6_setRight_54 rfl ?_
    refine x_imul C dX6_setRight_55 ?_
    refine x_iload_n C 2 dX6_setRight_56 rfl ?_
    refine x_iadd C dX6_setRight_57 ?_
    refine x_iload_n C 3 dX6_setRight_58 rfl ?_
    obtain ⟨g59, h⟩ := gdB h
    refine x_iast C 12 rfl g59 dX6_setRight_59 (wM_s12 cI cZ ad S rest (upd (S 12) ((42 * x1) + x2).toNatClampNeg x3)) ?_
    refine x_locals (lv' := []) [] rfl ?_
    exact X_X6_setRight_b60 C h
def X6_setRight_b38 (S : St) (x1 x2 x3 s0 : Int32) : Option (St) :=
  X6_setRight_b41 (up S 0 (upd (S 0) 25 s0)) x1 x2 x3
set_option maxHeartbeats 4000000 in
set_option maxRecDepth 100000 in
theorem X_X6_setRight_b38 {p : Program} {l : Launch} {e : Env} {s : State} {m : MethodId} {args : Array Value} {below : List Frame} {meth : Method} {c : Code} {D : va_G} {cI cZ cJ : ClassId} {ad : Nat → Nat} {rest w0 : va_W} (C : XC p rm_X6_setRight s m args meth c cX6_setRight 4 none RX6 wsX6_setRight D (t3 cI cZ cJ)) {S : St} {x1 x2 x3 s0 : Int32} {r : St} (h : X6_setRight_b38 S x1 x2 x3 s0 = some r) : XW p l e rm_X6_setRight s m args below meth c D w0 4 (MQ below (QV D (t3 cI cZ cJ) w0 (wM cI cZ ad r rest) s.heap.size) args s 0 0 (va_A w0 s.heap.size)) (wM cI cZ ad S rest) 0 0 38 [(0, .ref (ad 0)), (1, .int x1), (2, .int x2), (3, .int x3)] [.int s0, .ref (ad 0)] := by
  unfold X6_setRight_b38 at h
  refine x_put C (R' := RX6) (T := TX6) (N := 26) (ci := 6) tyX6 tyX6_ok nmX6 0 25 rfl rfl (by decide) rfl rfl (lt_ble rfl) rfl hi_X6_setRight_6 lk_X6_setRight_80 dX6_setRight_38 (wM_f0_25 cI cZ ad S rest s0) ?_
  exact X_X6_setRight_b41 C h
def X6_setRight_b20 (S : St) (x1 x2 x3 : Int32) : Option (St) :=
  X6_setRight_b38 S x1 x2 x3 1
set_option maxHeartbeats 4000000 in
set_option maxRecDepth 100000 in
theorem X_X6_setRight_b20 {p : Program} {l : Launch} {e : Env} {s : State} {m : MethodId} {args : Array Value} {below : List Frame} {meth : Method} {c : Code} {D : va_G} {cI cZ cJ : ClassId} {ad : Nat → Nat} {rest w0 : va_W} (C : XC p rm_X6_setRight s m args meth c cX6_setRight 4 none RX6 wsX6_setRight D (t3 cI cZ cJ)) {S : St} {x1 x2 x3 : Int32} {r : St} (h : X6_setRight_b20 S x1 x2 x3 = some r) : XW p l e rm_X6_setRight s m args below meth c D w0 4 (MQ below (QV D (t3 cI cZ cJ) w0 (wM cI cZ ad r rest) s.heap.size) args s 0 0 (va_A w0 s.heap.size)) (wM cI cZ ad S rest) 0 0 20 [(0, .ref (ad 0)), (1, .int x1), (2, .int x2), (3, .int x3)] [.ref (ad 0)] := by
  unfold X6_setRight_b20 at h
  refine x_iconst C (v := 1) dX6_setRight_20 (by decide) ?_
  refine x_goto C (t := 38) dX6_setRight_21 (by decide) ?_
  exact X_X6_setRight_b38 C h
def X6_setRight (S : St) (x1 x2 x3 : Int32) : Option (St) :=
  (X6_isIn x1 0 2).bind fun v4 => if v4 = 0 then (X6_setRight_b20 S x1 x2 x3) else ((X6_isIn x2 0 41).bind fun v14 => if v14 = 0 then (X6_setRight_b20 S x1 x2 x3) else ((X6_isIn x3 (-1) 1).bind fun v27 => if v27 = 0 then (X6_setRight_b38 S x1 x2 x3 2) else (X6_setRight_b38 S x1 x2 x3 0)))
set_option maxHeartbeats 4000000 in
set_option maxRecDepth 100000 in
theorem X_X6_setRight {p : Program} {l : Launch} {e : Env} {s : State} {m : MethodId} {args : Array Value} {below : List Frame} {meth : Method} {c : Code} {D : va_G} {cI cZ cJ : ClassId} {ad : Nat → Nat} {rest w0 : va_W} (C : XC p rm_X6_setRight s m args meth c cX6_setRight 4 none RX6 wsX6_setRight D (t3 cI cZ cJ)) {S : St} {x1 x2 x3 : Int32} {r : St} (h : X6_setRight S x1 x2 x3 = some r) : XW p l e rm_X6_setRight s m args below meth c D w0 4 (MQ below (QV D (t3 cI cZ cJ) w0 (wM cI cZ ad r rest) s.heap.size) args s 0 0 (va_A w0 s.heap.size)) (wM cI cZ ad S rest) 0 0 0 [(0, .ref (ad 0)), (1, .int x1), (2, .int x2), (3, .int x3)] [] := by
  unfold X6_setRight at h
  refine x_aload_n C 0 dX6_setRight_0 rfl ?_
  refine x_iload_n C 1 dX6_setRight_1 rfl ?_
  refine x_iconst C (v := 0) dX6_setRight_2 (by decide) ?_
  refine x_iconst C (v := 2) dX6_setRight_3 (by decide) ?_
  obtain ⟨v4, hg4, h⟩ := ob h
  refine x_ci0 (x_runS C (As := [.int x1, .int 0, .int 2]) (rest := [.ref (ad 0)]) (c_X6_isIn hg4) (cw_X6_setRight_X6_isIn_84 C) rfl (Nat.le_of_ble_eq_true rfl) dX6_setRight_4 ⟨Nat.zero_le _, Nat.zero_le _⟩) ?_
  refine x_if_eq C (t := 20) dX6_setRight_7 (by decide) (fun c7 => ?_) (fun c7 => ?_)
  · replace h := (if_pos c7).symm.trans h
    exact X_X6_setRight_b20 C h
  · replace h := (if_neg c7).symm.trans h
    refine x_iload_n C 2 dX6_setRight_10 rfl ?_
    refine x_iconst C (v := 0) dX6_setRight_11 (by decide) ?_
    refine x_bipush C (v := 41) dX6_setRight_12 (by decide) ?_
    obtain ⟨v14, hg14, h⟩ := ob h
    refine x_ci0 (x_runS C (As := [.int x2, .int 0, .int 41]) (rest := [.ref (ad 0)]) (c_X6_isIn hg14) (cw_X6_setRight_X6_isIn_84 C) rfl (Nat.le_of_ble_eq_true rfl) dX6_setRight_14 ⟨Nat.zero_le _, Nat.zero_le _⟩) ?_
    refine x_if_ne C (t := 24) dX6_setRight_17 (by decide) (fun c17 => ?_) (fun c17 => ?_)
    · replace h := (if_neg c17).symm.trans h
      refine x_iload_n C 3 dX6_setRight_24 rfl ?_
      refine x_iconst C (v := (-1)) dX6_setRight_25 (by decide) ?_
      refine x_iconst C (v := 1) dX6_setRight_26 (by decide) ?_
      obtain ⟨v27, hg27, h⟩ := ob h
      refine x_ci0 (x_runS C (As := [.int x3, .int (-1), .int 1]) (rest := [.ref (ad 0)]) (c_X6_isIn hg27) (cw_X6_setRight_X6_isIn_84 C) rfl (Nat.le_of_ble_eq_true rfl) dX6_setRight_27 ⟨Nat.zero_le _, Nat.zero_le _⟩) ?_
      refine x_if_eq C (t := 37) dX6_setRight_30 (by decide) (fun c30 => ?_) (fun c30 => ?_)
      · replace h := (if_pos c30).symm.trans h
        refine x_iconst C (v := 2) dX6_setRight_37 (by decide) ?_
        exact X_X6_setRight_b38 C h
      · replace h := (if_neg c30).symm.trans h
        refine x_iconst C (v := 0) dX6_setRight_33 (by decide) ?_
        refine x_goto C (t := 38) dX6_setRight_34 (by decide) ?_
        exact X_X6_setRight_b38 C h
    · replace h := (if_pos c17).symm.trans h
      exact X_X6_setRight_b20 C h
set_option maxRecDepth 100000 in
theorem c_X6_setRight {l : Launch} {D : va_G} {cI cZ cJ : ClassId} {ad : Nat → Nat} {S : St} {rest : va_W} {x1 x2 x3 : Int32} {r : St} (h : X6_setRight S x1 x2 x3 = some r) : ∀ sz, Met l yX6_setRight wsX6_setRight rm_X6_setRight (PC D (t3 cI cZ cJ) [.ref (ad 0), .int x1, .int x2, .int x3] (wM cI cZ ad S rest) sz) (QV D (t3 cI cZ cJ) (wM cI cZ ad S rest) (wM cI cZ ad r rest) sz) 0 0 (va_A (wM cI cZ ad S rest) sz) := by
  refine x_met (Qc := fun sz => QV D (t3 cI cZ cJ) (wM cI cZ ad S rest) (wM cI cZ ad r rest) sz) RX6 rfl (by decide) rfl (Nat.le_of_ble_eq_true rfl) (fun p e s m args below meth c C => ?_)
  exact X_X6_setRight C h
/-! EntryMastersModel.refer(IZ)V -/
abbrev rm_X6_refer : Room := { frames := 1, cells := 0, slots := 0, locals := 22 }
theorem hi_X6_refer_6 : ∀ z ∈ u_ws RX6 TX6 26, z ∈ wsX6_refer := by decide +kernel
theorem lk_X6_refer_46 : Cond.fieldLink RX6 46 RX6 "referral" "[Z" ∈ wsX6_refer := by decide +kernel
theorem lk_X6_refer_80 : Cond.fieldLink RX6 80 RX6 "thrown" "I" ∈ wsX6_refer := by decide +kernel
theorem cw_X6_refer_X6_isIn_84 {p : Program} {s : State} {m : MethodId} {args : Array Value} {meth : Method} {c : Code} {D : va_G} {tys : List (ClassId × FieldType)} {R : Room} (C : XC p R s m args meth c cX6_refer 3 none RX6 wsX6_refer D tys) : CallB rm_X6_refer s args RX6 84 yX6_isIn cX6_isIn 3 (some .boolean) wsX6_isIn rm_X6_isIn 0 0 3 ∧ (Cond.static yX6_isIn).before args s = true := va_cwS 3 C.2.2.2.2.1 gX6_refer_X6_isIn rfl rfl rfl (by decide +kernel) ⟨Nat.le_of_ble_eq_true rfl, Nat.le_of_ble_eq_true rfl⟩
def X6_refer_b33 (S : St) : Option (St) :=
  some S
set_option maxHeartbeats 4000000 in
set_option maxRecDepth 100000 in
theorem X_X6_refer_b33 {p : Program} {l : Launch} {e : Env} {s : State} {m : MethodId} {args : Array Value} {below : List Frame} {meth : Method} {c : Code} {D : va_G} {cI cZ cJ : ClassId} {ad : Nat → Nat} {rest w0 : va_W} (C : XC p rm_X6_refer s m args meth c cX6_refer 3 none RX6 wsX6_refer D (t3 cI cZ cJ)) {S : St} {r : St} (h : X6_refer_b33 S = some r) : XW p l e rm_X6_refer s m args below meth c D w0 3 (MQ below (QV D (t3 cI cZ cJ) w0 (wM cI cZ ad r rest) s.heap.size) args s 0 0 (va_A w0 s.heap.size)) (wM cI cZ ad S rest) 0 0 33 [] [] := by
  unfold X6_refer_b33 at h
  obtain rfl := Option.some.inj h
  exact x_vret C dX6_refer_33
def X6_refer_b19 (S : St) (x1 x2 : Int32) : Option (St) :=
  if (S 0 25) = 0 then (if inB x1 42 then (X6_refer_b33 (up S 13 (upd (S 13) x1.toNatClampNeg (vp_nar .boolean x2)))) else none) else (X6_refer_b33 S)
set_option maxHeartbeats 4000000 in
set_option maxRecDepth 100000 in
theorem X_X6_refer_b19 {p : Program} {l : Launch} {e : Env} {s : State} {m : MethodId} {args : Array Value} {below : List Frame} {meth : Method} {c : Code} {D : va_G} {cI cZ cJ : ClassId} {ad : Nat → Nat} {rest w0 : va_W} (C : XC p rm_X6_refer s m args meth c cX6_refer 3 none RX6 wsX6_refer D (t3 cI cZ cJ)) {S : St} {x1 x2 : Int32} {r : St} (h : X6_refer_b19 S x1 x2 = some r) : XW p l e rm_X6_refer s m args below meth c D w0 3 (MQ below (QV D (t3 cI cZ cJ) w0 (wM cI cZ ad r rest) s.heap.size) args s 0 0 (va_A w0 s.heap.size)) (wM cI cZ ad S rest) 0 0 19 [(0, .ref (ad 0)), (1, .int x1), (2, .int x2)] [] := by
  unfold X6_refer_b19 at h
  refine x_aload_n C 0 dX6_refer_19 rfl ?_
  refine x_get C (R' := RX6) (T := TX6) (N := 26) (ci := 6) 0 25 rfl rfl (by decide) rfl rfl hi_X6_refer_6 lk_X6_refer_80 dX6_refer_20 ?_
  refine x_if_ne C (t := 33) dX6_refer_23 (by decide) (fun c23 => ?_) (fun c23 => ?_)
  · replace h := (if_neg c23).symm.trans h
    refine x_locals (lv' := []) [] rfl ?_
    exact X_X6_refer_b33 C h
  · replace h := (if_pos c23).symm.trans h
    refine x_aload_n C 0 dX6_refer_26 rfl ?_
    refine x_get C (R' := RX6) (T := TX6) (N := 26) (ci := 6) 0 13 rfl rfl (by decide) rfl rfl hi_X6_refer_6 lk_X6_refer_46 dX6_refer_27 ?_
    refine x_iload_n C 1 dX6_refer_30 rfl ?_
    refine x_iload_n C 2 dX6_refer_31 rfl ?_
    obtain ⟨g32, h⟩ := gdB h
    refine x_zast C 13 rfl g32 dX6_refer_32 (wM_s13 cI cZ ad S rest (upd (S 13) x1.toNatClampNeg (vp_nar .boolean x2))) ?_
    refine x_locals (lv' := []) [] rfl ?_
    exact X_X6_refer_b33 C h
def X6_refer_b16 (S : St) (x1 x2 s0 : Int32) : Option (St) :=
  X6_refer_b19 (up S 0 (upd (S 0) 25 s0)) x1 x2
set_option maxHeartbeats 4000000 in
set_option maxRecDepth 100000 in
theorem X_X6_refer_b16 {p : Program} {l : Launch} {e : Env} {s : State} {m : MethodId} {args : Array Value} {below : List Frame} {meth : Method} {c : Code} {D : va_G} {cI cZ cJ : ClassId} {ad : Nat → Nat} {rest w0 : va_W} (C : XC p rm_X6_refer s m args meth c cX6_refer 3 none RX6 wsX6_refer D (t3 cI cZ cJ)) {S : St} {x1 x2 s0 : Int32} {r : St} (h : X6_refer_b16 S x1 x2 s0 = some r) : XW p l e rm_X6_refer s m args below meth c D w0 3 (MQ below (QV D (t3 cI cZ cJ) w0 (wM cI cZ ad r rest) s.heap.size) args s 0 0 (va_A w0 s.heap.size)) (wM cI cZ ad S rest) 0 0 16 [(0, .ref (ad 0)), (1, .int x1), (2, .int x2)] [.int s0, .ref (ad 0)] := by
  unfold X6_refer_b16 at h
  refine x_put C (R' := RX6) (T := TX6) (N := 26) (ci := 6) tyX6 tyX6_ok nmX6 0 25 rfl rfl (by decide) rfl rfl (lt_ble rfl) rfl hi_X6_refer_6 lk_X6_refer_80 dX6_refer_16 (wM_f0_25 cI cZ ad S rest s0) ?_
  exact X_X6_refer_b19 C h
def X6_refer (S : St) (x1 x2 : Int32) : Option (St) :=
  (X6_isIn x1 0 41).bind fun v5 => if v5 = 0 then (X6_refer_b16 S x1 x2 1) else (X6_refer_b16 S x1 x2 0)
set_option maxHeartbeats 4000000 in
set_option maxRecDepth 100000 in
theorem X_X6_refer {p : Program} {l : Launch} {e : Env} {s : State} {m : MethodId} {args : Array Value} {below : List Frame} {meth : Method} {c : Code} {D : va_G} {cI cZ cJ : ClassId} {ad : Nat → Nat} {rest w0 : va_W} (C : XC p rm_X6_refer s m args meth c cX6_refer 3 none RX6 wsX6_refer D (t3 cI cZ cJ)) {S : St} {x1 x2 : Int32} {r : St} (h : X6_refer S x1 x2 = some r) : XW p l e rm_X6_refer s m args below meth c D w0 3 (MQ below (QV D (t3 cI cZ cJ) w0 (wM cI cZ ad r rest) s.heap.size) args s 0 0 (va_A w0 s.heap.size)) (wM cI cZ ad S rest) 0 0 0 [(0, .ref (ad 0)), (1, .int x1), (2, .int x2)] [] := by
  unfold X6_refer at h
  refine x_aload_n C 0 dX6_refer_0 rfl ?_
  refine x_iload_n C 1 dX6_refer_1 rfl ?_
  refine x_iconst C (v := 0) dX6_refer_2 (by decide) ?_
  refine x_bipush C (v := 41) dX6_refer_3 (by decide) ?_
  obtain ⟨v5, hg5, h⟩ := ob h
  refine x_ci0 (x_runS C (As := [.int x1, .int 0, .int 41]) (rest := [.ref (ad 0)]) (c_X6_isIn hg5) (cw_X6_refer_X6_isIn_84 C) rfl (Nat.le_of_ble_eq_true rfl) dX6_refer_5 ⟨Nat.zero_le _, Nat.zero_le _⟩) ?_
  refine x_if_eq C (t := 15) dX6_refer_8 (by decide) (fun c8 => ?_) (fun c8 => ?_)
  · replace h := (if_pos c8).symm.trans h
    refine x_iconst C (v := 1) dX6_refer_15 (by decide) ?_
    exact X_X6_refer_b16 C h
  · replace h := (if_neg c8).symm.trans h
    refine x_iconst C (v := 0) dX6_refer_11 (by decide) ?_
    refine x_goto C (t := 16) dX6_refer_12 (by decide) ?_
    exact X_X6_refer_b16 C h
set_option maxRecDepth 100000 in
theorem c_X6_refer {l : Launch} {D : va_G} {cI cZ cJ : ClassId} {ad : Nat → Nat} {S : St} {rest : va_W} {x1 x2 : Int32} {r : St} (h : X6_refer S x1 x2 = some r) : ∀ sz, Met l yX6_refer wsX6_refer rm_X6_refer (PC D (t3 cI cZ cJ) [.ref (ad 0), .int x1, .int x2] (wM cI cZ ad S rest) sz) (QV D (t3 cI cZ cJ) (wM cI cZ ad S rest) (wM cI cZ ad r rest) sz) 0 0 (va_A (wM cI cZ ad S rest) sz) := by
  refine x_met (Qc := fun sz => QV D (t3 cI cZ cJ) (wM cI cZ ad S rest) (wM cI cZ ad r rest) sz) RX6 rfl (by decide) rfl (Nat.le_of_ble_eq_true rfl) (fun p e s m args below meth c C => ?_)
  exact X_X6_refer C h
/-! EntryMastersModel.makes(III)I -/
abbrev rm_X6_makes : Room := { frames := 0, cells := 0, slots := 0, locals := 0 }
theorem hi_X6_makes_6 : ∀ z ∈ u_ws RX6 TX6 26, z ∈ wsX6_makes := by decide +kernel
theorem lk_X6_makes_50 : Cond.fieldLink RX6 50 RX6 "sort" "[I" ∈ wsX6_makes := by decide +kernel
theorem lk_X6_makes_53 : Cond.fieldLink RX6 53 RX6 "first" "[I" ∈ wsX6_makes := by decide +kernel
theorem lk_X6_makes_56 : Cond.fieldLink RX6 56 RX6 "second" "[I" ∈ wsX6_makes := by decide +kernel
theorem lk_X6_makes_146 : Cond.fieldLink RX6 146 RX6 "filters" "I" ∈ wsX6_makes := by decide +kernel
def X6_makes_b40 (S : St) : Option (Int32 × St) :=
  some ((S 0 14) - 1, S)
set_option maxHeartbeats 4000000 in
set_option maxRecDepth 100000 in
theorem X_X6_makes_b40 {p : Program} {l : Launch} {e : Env} {s : State} {m : MethodId} {args : Array Value} {below : List Frame} {meth : Method} {c : Code} {D : va_G} {cI cZ cJ : ClassId} {ad : Nat → Nat} {rest w0 : va_W} (C : XC p rm_X6_makes s m args meth c cX6_makes 4 (some .int) RX6 wsX6_makes D (t3 cI cZ cJ)) {S : St} {r : Int32 × St} (h : X6_makes_b40 S = some r) : XW p l e rm_X6_makes s m args below meth c D w0 4 (MQ below (QI D (t3 cI cZ cJ) w0 (wM cI cZ ad r.2 rest) s.heap.size r.1) args s 0 0 (va_A w0 s.heap.size)) (wM cI cZ ad S rest) 0 0 40 [(0, .ref (ad 0))] [] := by
  unfold X6_makes_b40 at h
  refine x_aload_n C 0 dX6_makes_40 rfl ?_
  refine x_get C (R' := RX6) (T := TX6) (N := 26) (ci := 6) 0 14 rfl rfl (by decide) rfl rfl hi_X6_makes_6 lk_X6_makes_146 dX6_makes_41 ?_
  refine x_iconst C (v := 1) dX6_makes_44 (by decide) ?_
  refine x_isub C dX6_makes_45 ?_
  obtain rfl := Option.some.inj h
  exact x_iret C dX6_makes_46
def X6_makes_b30 (S : St) : Option (Int32 × St) :=
  X6_makes_b40 (up S 0 (upd (S 0) 14 ((S 0 14) + 1)))
set_option maxHeartbeats 4000000 in
set_option maxRecDepth 100000 in
theorem X_X6_makes_b30 {p : Program} {l : Launch} {e : Env} {s : State} {m : MethodId} {args : Array Value} {below : List Frame} {meth : Method} {c : Code} {D : va_G} {cI cZ cJ : ClassId} {ad : Nat → Nat} {rest w0 : va_W} (C : XC p rm_X6_makes s m args meth c cX6_makes 4 (some .int) RX6 wsX6_makes D (t3 cI cZ cJ)) {S : St} {r : Int32 × St} (h : X6_makes_b30 S = some r) : XW p l e rm_X6_makes s m args below meth c D w0 4 (MQ below (QI D (t3 cI cZ cJ) w0 (wM cI cZ ad r.2 rest) s.heap.size r.1) args s 0 0 (va_A w0 s.heap.size)) (wM cI cZ ad S rest) 0 0 30 [(0, .ref (ad 0))] [] := by
  unfold X6_makes_b30 at h
  refine x_aload_n C 0 dX6_makes_30 rfl ?_
  refine x_dup C dX6_makes_31 rfl ?_
  refine x_get C (R' := RX6) (T := TX6) (N := 26) (ci := 6) 0 14 rfl rfl (by decide) rfl rfl hi_X6_makes_6 lk_X6_makes_146 dX6_makes_32 ?_
  refine x_iconst C (v := 1) dX6_makes_35 (by decide) ?_
  refine x_iadd C dX6_makes_36 ?_
  refine x_put C (R' := RX6) (T := TX6) (N := 26) (ci := 6) tyX6 tyX6_ok nmX6 0 14 rfl rfl (by decide) rfl rfl (lt_ble rfl) rfl hi_X6_makes_6 lk_X6_makes_146 dX6_makes_37 (wM_f0_14 cI cZ ad S rest ((S 0 14) + 1)) ?_
  exact X_X6_makes_b40 C h
def X6_makes_b20 (S : St) (x3 : Int32) : Option (Int32 × St) :=
  if inB (S 0 14) 20 then (X6_makes_b30 (up S 16 (upd (S 16) (S 0 14).toNatClampNeg x3))) else none
set_option maxHeartbeats 4000000 in
set_option maxRecDepth 100000 in
theorem X_X6_makes_b20 {p : Program} {l : Launch} {e : Env} {s : State} {m : MethodId} {args : Array Value} {below : List Frame} {meth : Method} {c : Code} {D : va_G} {cI cZ cJ : ClassId} {ad : Nat → Nat} {rest w0 : va_W} (C : XC p rm_X6_makes s m args meth c cX6_makes 4 (some .int) RX6 wsX6_makes D (t3 cI cZ cJ)) {S : St} {x3 : Int32} {r : Int32 × St} (h : X6_makes_b20 S x3 = some r) : XW p l e rm_X6_makes s m args below meth c D w0 4 (MQ below (QI D (t3 cI cZ cJ) w0 (wM cI cZ ad r.2 rest) s.heap.size r.1) args s 0 0 (va_A w0 s.heap.size)) (wM cI cZ ad S rest) 0 0 20 [(0, .ref (ad 0)), (3, .int x3)] [] := by
  unfold X6_makes_b20 at h
  refine x_aload_n C 0 dX6_makes_20 rfl ?_
  refine x_get C (R' := RX6) (T := TX6) (N := 26) (ci := 6) 0 17 rfl rfl (by decide) rfl rfl hi_X6_makes_6 lk_X6_makes_56 dX6_makes_21 ?_
  refine x_aload_n C 0 dX6_makes_24 rfl ?_
  refine x_get C (R' := RX6) (T := TX6) (N := 26) (ci := 6) 0 14 rfl rfl (by decide) rfl rfl hi_X6_makes_6 lk_X6_makes_146 dX6_makes_25 ?_
  refine x_iload_n C 1 dX6_makes_28 rfl ?_
  obtain ⟨g29, h⟩ := gdB h
  refine x_iast C 16 rfl g29 dX6_makes_29 (wM_s16 cI cZ ad S rest (upd (S 16) (S 0 14).toNatClampNeg x3)) ?_
  refine x_locals (lv' := [(0, .ref (ad 0))]) [0] rfl ?_
  exact X_X6_makes_b30 C h
def X6_makes_b10 (S : St) (x2 x3 : Int32) : Option (Int32 × St) :=
  if inB (S 0 14) 20 then (X6_makes_b20 (up S 15 (upd (S 15) (S 0 14).toNatClampNeg x2)) x3) else none
set_option maxHeartbeats 4000000 in
set_option maxRecDepth 100000 in
theorem X_X6_makes_b10 {p : Program} {l : Launch} {e : Env} {s : State} {m : MethodId} {args : Array Value} {below : List Frame} {meth : Method} {c : Code} {D : va_G} {cI cZ cJ : ClassId} {ad : Nat → Nat} {rest w0 : va_W} (C : XC p rm_X6_makes s m args meth c cX6_makes 4 (some .int) RX6 wsX6_makes D (t3 cI cZ cJ)) {S : St} {x2 x3 : Int32} {r : Int32 × St} (h : X6_makes_b10 S x2 x3 = some r) : XW p l e rm_X6_makes s m args below meth c D w0 4 (MQ below (QI D (t3 cI cZ cJ) w0 (wM cI cZ ad r.2 rest) s.heap.size r.1) args s 0 0 (va_A w0 s.heap.size)) (wM cI cZ ad S rest) 0 0 10 [(0, .ref (ad 0)), (2, .int x2), (3, .int x3)] [] := by
  unfold X6_makes_b10 at h
  refine x_aload_n C 0 dX6_makes_10 rfl ?_
  refine x_get C (R' := RX6) (T := TX6) (N := 26) (ci := 6) 0 16 rfl rfl (by decide) rfl rfl hi_X6_makes_6 lk_X6_makes_53 dX6_makes_11 ?_
  refine x_aload_n C 0 dX6_makes_14 rfl ?_
  refine x_get C (R' := RX6) (T := TX6) (N := 26) (ci := 6) 0 14 rfl rfl (by decide) rfl rfl hi_X6_makes_6 lk_X6_makes_146 dX6_makes_15 ?_
  refine x_iload_n C 1 dX6_makes_18 rfl ?_
  obtain ⟨g19, h⟩ := gdB h
  refine x_iast C 15 rfl g19 dX6_makes_19 (wM_s15 cI cZ ad S rest (upd (S 15) (S 0 14).toNatClampNeg x2)) ?_
  refine x_locals (lv' := [(0, .ref (ad 0)), (3, .int x3)]) [0, 2] rfl ?_
  exact X_X6_makes_b20 C h
def X6_makes (S : St) (x1 x2 x3 : Int32) : Option (Int32 × St) :=
  if inB (S 0 14) 20 then (X6_makes_b10 (up S 14 (upd (S 14) (S 0 14).toNatClampNeg x1)) x2 x3) else none
set_option maxHeartbeats 4000000 in
set_option maxRecDepth 100000 in
theorem X_X6_makes {p : Program} {l : Launch} {e : Env} {s : State} {m : MethodId} {args : Array Value} {below : List Frame} {meth : Method} {c : Code} {D : va_G} {cI cZ cJ : ClassId} {ad : Nat → Nat} {rest w0 : va_W} (C : XC p rm_X6_makes s m args meth c cX6_makes 4 (some .int) RX6 wsX6_makes D (t3 cI cZ cJ)) {S : St} {x1 x2 x3 : Int32} {r : Int32 × St} (h : X6_makes S x1 x2 x3 = some r) : XW p l e rm_X6_makes s m args below meth c D w0 4 (MQ below (QI D (t3 cI cZ cJ) w0 (wM cI cZ ad r.2 rest) s.heap.size r.1) args s 0 0 (va_A w0 s.heap.size)) (wM cI cZ ad S rest) 0 0 0 [(0, .ref (ad 0)), (1, .int x1), (2, .int x2), (3, .int x3)] [] := by
  unfold X6_makes at h
  refine x_aload_n C 0 dX6_makes_0 rfl ?_
  refine x_get C (R' := RX6) (T := TX6) (N := 26) (ci := 6) 0 15 rfl rfl (by decide) rfl rfl hi_X6_makes_6 lk_X6_makes_50 dX6_makes_1 ?_
  refine x_aload_n C 0 dX6_makes_4 rfl ?_
  refine x_get C (R' := RX6) (T := TX6) (N := 26) (ci := 6) 0 14 rfl rfl (by decide) rfl rfl hi_X6_makes_6 lk_X6_makes_146 dX6_makes_5 ?_
  refine x_iload_n C 1 dX6_makes_8 rfl ?_
  obtain ⟨g9, h⟩ := gdB h
  refine x_iast C 14 rfl g9 dX6_makes_9 (wM_s14 cI cZ ad S rest (upd (S 14) (S 0 14).toNatClampNeg x1)) ?_
  refine x_locals (lv' := [(0, .ref (ad 0)), (2, .int x2), (3, .int x3)]) [0, 2, 3] rfl ?_
  exact X_X6_makes_b10 C h
set_option maxRecDepth 100000 in
theorem c_X6_makes {l : Launch} {D : va_G} {cI cZ cJ : ClassId} {ad : Nat → Nat} {S : St} {rest : va_W} {x1 x2 x3 : Int32} {r : Int32 × St} (h : X6_makes S x1 x2 x3 = some r) : ∀ sz, Met l yX6_makes wsX6_makes rm_X6_makes (PC D (t3 cI cZ cJ) [.ref (ad 0), .int x1, .int x2, .int x3] (wM cI cZ ad S rest) sz) (QI D (t3 cI cZ cJ) (wM cI cZ ad S rest) (wM cI cZ ad r.2 rest) sz r.1) 0 0 (va_A (wM cI cZ ad S rest) sz) := by
  refine x_met (Qc := fun sz => QI D (t3 cI cZ cJ) (wM cI cZ ad S rest) (wM cI cZ ad r.2 rest) sz r.1) RX6 rfl (by decide) rfl (Nat.le_of_ble_eq_true rfl) (fun p e s m args below meth c C => ?_)
  exact X_X6_makes C h
/-! EntryMastersModel.test(III)I -/
abbrev rm_X6_test : Room := { frames := 1, cells := 0, slots := 0, locals := 23 }
theorem hi_X6_test_6 : ∀ z ∈ u_ws RX6 TX6 26, z ∈ wsX6_test := by decide +kernel
theorem lk_X6_test_80 : Cond.fieldLink RX6 80 RX6 "thrown" "I" ∈ wsX6_test := by decide +kernel
theorem lk_X6_test_146 : Cond.fieldLink RX6 146 RX6 "filters" "I" ∈ wsX6_test := by decide +kernel
theorem cw_X6_test_X6_isIn_84 {p : Program} {s : State} {m : MethodId} {args : Array Value} {meth : Method} {c : Code} {D : va_G} {tys : List (ClassId × FieldType)} {R : Room} (C : XC p R s m args meth c cX6_test 5 (some .int) RX6 wsX6_test D tys) : CallB rm_X6_test s args RX6 84 yX6_isIn cX6_isIn 3 (some .boolean) wsX6_isIn rm_X6_isIn 0 0 3 ∧ (Cond.static yX6_isIn).before args s = true := va_cwS 3 C.2.2.2.2.1 gX6_test_X6_isIn rfl rfl rfl (by decide +kernel) ⟨Nat.le_of_ble_eq_true rfl, Nat.le_of_ble_eq_true rfl⟩
theorem cw_X6_test_X6_makes_149 {p : Program} {s : State} {m : MethodId} {args : Array Value} {meth : Method} {c : Code} {D : va_G} {tys : List (ClassId × FieldType)} {R : Room} (C : XC p R s m args meth c cX6_test 5 (some .int) RX6 wsX6_test D tys) : CallW rm_X6_test s args RX6 RX6 149 yX6_makes cX6_makes 4 (some .int) wsX6_makes rm_X6_makes 0 0 3 := cwV 3 C.2.2.2.2.1 gX6_test_X6_makes rfl rfl rfl (by decide +kernel) ⟨Nat.le_of_ble_eq_true rfl, Nat.le_of_ble_eq_true rfl⟩
def X6_test_b80 (S : St) (s0 : Int32) : Option (Int32 × St) :=
  some (s0, S)
set_option maxHeartbeats 4000000 in
set_option maxRecDepth 100000 in
theorem X_X6_test_b80 {p : Program} {l : Launch} {e : Env} {s : State} {m : MethodId} {args : Array Value} {below : List Frame} {meth : Method} {c : Code} {D : va_G} {cI cZ cJ : ClassId} {ad : Nat → Nat} {rest w0 : va_W} (C : XC p rm_X6_test s m args meth c cX6_test 5 (some .int) RX6 wsX6_test D (t3 cI cZ cJ)) {S : St} {s0 : Int32} {r : Int32 × St} (h : X6_test_b80 S s0 = some r) : XW p l e rm_X6_test s m args below meth c D w0 5 (MQ below (QI D (t3 cI cZ cJ) w0 (wM cI cZ ad r.2 rest) s.heap.size r.1) args s 0 0 (va_A w0 s.heap.size)) (wM cI cZ ad S rest) 0 0 80 [] [.int s0] := by
  unfold X6_test_b80 at h
  obtain rfl := Option.some.inj h
  exact x_iret C dX6_test_80
def X6_test_b62 (S : St) (x1 x2 x3 : Int32) : Option (Int32 × St) :=
  if (S 0 25) ≤ 0 then ((X6_makes S x1 x2 x3).bind fun q77 => X6_test_b80 q77.2 q77.1) else (X6_test_b80 S 0)
set_option maxHeartbeats 4000000 in
set_option maxRecDepth 100000 in
theorem X_X6_test_b62 {p : Program} {l : Launch} {e : Env} {s : State} {m : MethodId} {args : Array Value} {below : List Frame} {meth : Method} {c : Code} {D : va_G} {cI cZ cJ : ClassId} {ad : Nat → Nat} {rest w0 : va_W} (C : XC p rm_X6_test s m args meth c cX6_test 5 (some .int) RX6 wsX6_test D (t3 cI cZ cJ)) {S : St} {x1 x2 x3 : Int32} {r : Int32 × St} (h : X6_test_b62 S x1 x2 x3 = some r) : XW p l e rm_X6_test s m args below meth c D w0 5 (MQ below (QI D (t3 cI cZ cJ) w0 (wM cI cZ ad r.2 rest) s.heap.size r.1) args s 0 0 (va_A w0 s.heap.size)) (wM cI cZ ad S rest) 0 0 62 [(0, .ref (ad 0)), (1, .int x1), (2, .int x2), (3, .int x3)] [] := by
  unfold X6_test_b62 at h
  refine x_aload_n C 0 dX6_test_62 rfl ?_
  refine x_get C (R' := RX6) (T := TX6) (N := 26) (ci := 6) 0 25 rfl rfl (by decide) rfl rfl hi_X6_test_6 lk_X6_test_80 dX6_test_63 ?_
  refine x_if_le C (t := 73) dX6_test_66 (by decide) (fun c66 => ?_) (fun c66 => ?_)
  · replace h := (if_pos c66).symm.trans h
    refine x_aload_n C 0 dX6_test_73 rfl ?_
    refine x_iload_n C 1 dX6_test_74 rfl ?_
    refine x_iload_n C 2 dX6_test_75 rfl ?_
    refine x_iload_n C 3 dX6_test_76 rfl ?_
    obtain ⟨⟨v77, S77⟩, hg77, h⟩ := ob h
    refine x_ci0 (x_runV C (As := [.int x1, .int x2, .int x3]) (rest := []) (c_X6_makes hg77) (cw_X6_test_X6_makes_149 C) 0 rfl rfl rfl (Nat.le_of_ble_eq_true rfl) dX6_test_77 ⟨Nat.zero_le _, Nat.zero_le _⟩) ?_
    refine x_locals (lv' := []) [] rfl ?_
    exact X_X6_test_b80 C h
  · replace h := (if_neg c66).symm.trans h
    refine x_iconst C (v := 0) dX6_test_69 (by decide) ?_
    refine x_goto C (t := 80) dX6_test_70 (by decide) ?_
    refine x_locals (lv' := []) [] rfl ?_
    exact X_X6_test_b80 C h
def X6_test_b59 (S : St) (x1 x2 x3 s0 : Int32) : Option (Int32 × St) :=
  X6_test_b62 (up S 0 (upd (S 0) 25 s0)) x1 x2 x3
set_option maxHeartbeats 4000000 in
set_option maxRecDepth 100000 in
theorem X_X6_test_b59 {p : Program} {l : Launch} {e : Env} {s : State} {m : MethodId} {args : Array Value} {below : List Frame} {meth : Method} {c : Code} {D : va_G} {cI cZ cJ : ClassId} {ad : Nat → Nat} {rest w0 : va_W} (C : XC p rm_X6_test s m args meth c cX6_test 5 (some .int) RX6 wsX6_test D (t3 cI cZ cJ)) {S : St} {x1 x2 x3 s0 : Int32} {r : Int32 × St} (h : X6_test_b59 S x1 x2 x3 s0 = some r) : XW p l e rm_X6_test s m args below meth c D w0 5 (MQ below (QI D (t3 cI cZ cJ) w0 (wM cI cZ ad r.2 rest) s.heap.size r.1) args s 0 0 (va_A w0 s.heap.size)) (wM cI cZ ad S rest) 0 0 59 [(0, .ref (ad 0)), (1, .int x1), (2, .int x2), (3, .int x3)] [.int s0, .ref (ad 0)] := by
  unfold X6_test_b59 at h
  refine x_put C (R' := RX6) (T := TX6) (N := 26) (ci := 6) tyX6 tyX6_ok nmX6 0 25 rfl rfl (by decide) rfl rfl (lt_ble rfl) rfl hi_X6_test_6 lk_X6_test_80 dX6_test_59 (wM_f0_25 cI cZ ad S rest s0) ?_
  exact X_X6_test_b62 C h
def X6_test_b33 (S : St) (x1 x2 x3 s0 : Int32) : Option (Int32 × St) :=
  if s0 = 0 then (X6_test_b59 S x1 x2 x3 1) else (if (S 0 14) = 20 then (X6_test_b59 S x1 x2 x3 2) else (X6_test_b59 S x1 x2 x3 0))
set_option maxHeartbeats 4000000 in
set_option maxRecDepth 100000 in
theorem X_X6_test_b33 {p : Program} {l : Launch} {e : Env} {s : State} {m : MethodId} {args : Array Value} {below : List Frame} {meth : Method} {c : Code} {D : va_G} {cI cZ cJ : ClassId} {ad : Nat → Nat} {rest w0 : va_W} (C : XC p rm_X6_test s m args meth c cX6_test 5 (some .int) RX6 wsX6_test D (t3 cI cZ cJ)) {S : St} {x1 x2 x3 s0 : Int32} {r : Int32 × St} (h : X6_test_b33 S x1 x2 x3 s0 = some r) : XW p l e rm_X6_test s m args below meth c D w0 5 (MQ below (QI D (t3 cI cZ cJ) w0 (wM cI cZ ad r.2 rest) s.heap.size r.1) args s 0 0 (va_A w0 s.heap.size)) (wM cI cZ ad S rest) 0 0 33 [(0, .ref (ad 0)), (1, .int x1), (2, .int x2), (3, .int x3)] [.int s0] := by
  unfold X6_test_b33 at h
  refine x_istore C (lv' := [(0, .ref (ad 0)), (1, .int x1), (2, .int x2), (3, .int x3), (4, .int s0)]) dX6_test_33 (by decide) rfl ?_
  refine x_aload_n C 0 dX6_test_35 rfl ?_
  refine x_iload C 4 dX6_test_36 rfl ?_
  refine x_if_ne C (t := 45) dX6_test_38 (by decide) (fun c38 => ?_) (fun c38 => ?_)
  · replace h := (if_neg c38).symm.trans h
    refine x_aload_n C 0 dX6_test_45 rfl ?_
    refine x_get C (R' := RX6) (T := TX6) (N := 26) (ci := 6) 0 14 rfl rfl (by decide) rfl rfl hi_X6_test_6 lk_X6_test_146 dX6_test_46 ?_
    refine x_bipush C (v := 20) dX6_test_49 (by decide) ?_
    refine x_icmp_ne C (t := 58) dX6_test_51 (by decide) (fun c51 => ?_) (fun c51 => ?_)
    · replace h := (if_neg c51).symm.trans h
      refine x_iconst C (v := 0) dX6_test_58 (by decide) ?_
      refine x_locals (lv' := [(0, .ref (ad 0)), (1, .int x1), (2, .int x2), (3, .int x3)]) [0, 1, 2, 3] rfl ?_
      exact X_X6_test_b59 C h
    · replace h := (if_pos c51).symm.trans h
      refine x_iconst C (v := 2) dX6_test_54 (by decide) ?_
      refine x_goto C (t := 59) dX6_test_55 (by decide) ?_
      refine x_locals (lv' := [(0, .ref (ad 0)), (1, .int x1), (2, .int x2), (3, .int x3)]) [0, 1, 2, 3] rfl ?_
      exact X_X6_test_b59 C h
  · replace h := (if_pos c38).symm.trans h
    refine x_iconst C (v := 1) dX6_test_41 (by decide) ?_
    refine x_goto C (t := 59) dX6_test_42 (by decide) ?_
    refine x_locals (lv' := [(0, .ref (ad 0)), (1, .int x1), (2, .int x2), (3, .int x3)]) [0, 1, 2, 3] rfl ?_
    exact X_X6_test_b59 C h
def X6_test_b32 (S : St) (x1 x2 x3 : Int32) : Option (Int32 × St) :=
  X6_test_b33 S x1 x2 x3 0
set_option maxHeartbeats 4000000 in
set_option maxRecDepth 100000 in
theorem X_X6_test_b32 {p : Program} {l : Launch} {e : Env} {s : State} {m : MethodId} {args : Array Value} {below : List Frame} {meth : Method} {c : Code} {D : va_G} {cI cZ cJ : ClassId} {ad : Nat → Nat} {rest w0 : va_W} (C : XC p rm_X6_test s m args meth c cX6_test 5 (some .int) RX6 wsX6_test D (t3 cI cZ cJ)) {S : St} {x1 x2 x3 : Int32} {r : Int32 × St} (h : X6_test_b32 S x1 x2 x3 = some r) : XW p l e rm_X6_test s m args below meth c D w0 5 (MQ below (QI D (t3 cI cZ cJ) w0 (wM cI cZ ad r.2 rest) s.heap.size r.1) args s 0 0 (va_A w0 s.heap.size)) (wM cI cZ ad S rest) 0 0 32 [(0, .ref (ad 0)), (1, .int x1), (2, .int x2), (3, .int x3)] [] := by
  unfold X6_test_b32 at h
  refine x_iconst C (v := 0) dX6_test_32 (by decide) ?_
  exact X_X6_test_b33 C h
def X6_test (S : St) (x1 x2 x3 : Int32) : Option (Int32 × St) :=
  (X6_isIn x1 0 2).bind fun v3 => if v3 = 0 then (X6_test_b32 S x1 x2 x3) else ((X6_isIn x2 0 3).bind fun v12 => if v12 = 0 then (X6_test_b32 S x1 x2 x3) else ((X6_isIn x3 0 9).bind fun v22 => if v22 = 0 then (X6_test_b32 S x1 x2 x3) else (X6_test_b33 S x1 x2 x3 1)))
set_option maxHeartbeats 4000000 in
set_option maxRecDepth 100000 in
theorem X_X6_test {p : Program} {l : Launch} {e : Env} {s : State} {m : MethodId} {args : Array Value} {below : List Frame} {meth : Method} {c : Code} {D : va_G} {cI cZ cJ : ClassId} {ad : Nat → Nat} {rest w0 : va_W} (C : XC p rm_X6_test s m args meth c cX6_test 5 (some .int) RX6 wsX6_test D (t3 cI cZ cJ)) {S : St} {x1 x2 x3 : Int32} {r : Int32 × St} (h : X6_test S x1 x2 x3 = some r) : XW p l e rm_X6_test s m args below meth c D w0 5 (MQ below (QI D (t3 cI cZ cJ) w0 (wM cI cZ ad r.2 rest) s.heap.size r.1) args s 0 0 (va_A w0 s.heap.size)) (wM cI cZ ad S rest) 0 0 0 [(0, .ref (ad 0)), (1, .int x1), (2, .int x2), (3, .int x3)] [] := by
  unfold X6_test at h
  refine x_iload_n C 1 dX6_test_0 rfl ?_
  refine x_iconst C (v := 0) dX6_test_1 (by decide) ?_
  refine x_iconst C (v := 2) dX6_test_2 (by decide) ?_
  obtain ⟨v3, hg3, h⟩ := ob h
  refine x_ci0 (x_runS C (As := [.int x1, .int 0, .int 2]) (rest := []) (c_X6_isIn hg3) (cw_X6_test_X6_isIn_84 C) rfl (Nat.le_of_ble_eq_true rfl) dX6_test_3 ⟨Nat.zero_le _, Nat.zero_le _⟩) ?_
  refine x_if_eq C (t := 32) dX6_test_6 (by decide) (fun c6 => ?_) (fun c6 => ?_)
  · replace h := (if_pos c6).symm.trans h
    exact X_X6_test_b32 C h
  · replace h := (if_neg c6).symm.trans h
    refine x_iload_n C 2 dX6_test_9 rfl ?_
    refine x_iconst C (v := 0) dX6_test_10 (by decide) ?_
    refine x_iconst C (v := 3) dX6_test_11 (by decide) ?_
    obtain ⟨v12, hg12, h⟩ := ob h
    refine x_ci0 (x_runS C (As := [.int x2, .int 0, .int 3]) (rest := []) (c_X6_isIn hg12) (cw_X6_test_X6_isIn_84 C) rfl (Nat.le_of_ble_eq_true rfl) dX6_test_12 ⟨Nat.zero_le _, Nat.zero_le _⟩) ?_
    refine x_if_eq C (t := 32) dX6_test_15 (by decide) (fun c15 => ?_) (fun c15 => ?_)
    · replace h := (if_pos c15).symm.trans h
      exact X_X6_test_b32 C h
    · replace h := (if_neg c15).symm.trans h
      refine x_iload_n C 3 dX6_test_18 rfl ?_
      refine x_iconst C (v := 0) dX6_test_19 (by decide) ?_
      refine x_bipush C (v := 9) dX6_test_20 (by decide) ?_
      obtain ⟨v22, hg22, h⟩ := ob h
      refine x_ci0 (x_runS C (As := [.int x3, .int 0, .int 9]) (rest := []) (c_X6_isIn hg22) (cw_X6_test_X6_isIn_84 C) rfl (Nat.le_of_ble_eq_true rfl) dX6_test_22 ⟨Nat.zero_le _, Nat.zero_le _⟩) ?_
      refine x_if_eq C (t := 32) dX6_test_25 (by decide) (fun c25 => ?_) (fun c25 => ?_)
      · replace h := (if_pos c25).symm.trans h
        exact X_X6_test_b32 C h
      · replace h := (if_neg c25).symm.trans h
        refine x_iconst C (v := 1) dX6_test_28 (by decide) ?_
        refine x_goto C (t := 33) dX6_test_29 (by decide) ?_
        exact X_X6_test_b33 C h
set_option maxRecDepth 100000 in
theorem c_X6_test {l : Launch} {D : va_G} {cI cZ cJ : ClassId} {ad : Nat → Nat} {S : St} {rest : va_W} {x1 x2 x3 : Int32} {r : Int32 × St} (h : X6_test S x1 x2 x3 = some r) : ∀ sz, Met l yX6_test wsX6_test rm_X6_test (PC D (t3 cI cZ cJ) [.ref (ad 0), .int x1, .int x2, .int x3] (wM cI cZ ad S rest) sz) (QI D (t3 cI cZ cJ) (wM cI cZ ad S rest) (wM cI cZ ad r.2 rest) sz r.1) 0 0 (va_A (wM cI cZ ad S rest) sz) := by
  refine x_met (Qc := fun sz => QI D (t3 cI cZ cJ) (wM cI cZ ad S rest) (wM cI cZ ad r.2 rest) sz r.1) RX6 rfl (by decide) rfl (Nat.le_of_ble_eq_true rfl) (fun p e s m args below meth c C => ?_)
  exact X_X6_test C h
/-! EntryMastersModel.isFilter(I)Z -/
abbrev rm_X6_isFilter : Room := { frames := 1, cells := 0, slots := 0, locals := 22 }
theorem hi_X6_isFilter_6 : ∀ z ∈ u_ws RX6 TX6 26, z ∈ wsX6_isFilter := by decide +kernel
theorem lk_X6_isFilter_146 : Cond.fieldLink RX6 146 RX6 "filters" "I" ∈ wsX6_isFilter := by decide +kernel
theorem cw_X6_isFilter_X6_isIn_84 {p : Program} {s : State} {m : MethodId} {args : Array Value} {meth : Method} {c : Code} {D : va_G} {tys : List (ClassId × FieldType)} {R : Room} (C : XC p R s m args meth c cX6_isFilter 2 (some .boolean) RX6 wsX6_isFilter D tys) : CallB rm_X6_isFilter s args RX6 84 yX6_isIn cX6_isIn 3 (some .boolean) wsX6_isIn rm_X6_isIn 0 0 3 ∧ (Cond.static yX6_isIn).before args s = true := va_cwS 3 C.2.2.2.2.1 gX6_isFilter_X6_isIn rfl rfl rfl (by decide +kernel) ⟨Nat.le_of_ble_eq_true rfl, Nat.le_of_ble_eq_true rfl⟩
def X6_isFilter (S : St) (x1 : Int32) : Option (Int32) :=
  (X6_isIn x1 0 ((S 0 14) - 1)).bind fun v8 => if v8 &&& 1 = v8 then (some v8) else none
set_option maxHeartbeats 4000000 in
set_option maxRecDepth 100000 in
theorem X_X6_isFilter {p : Program} {l : Launch} {e : Env} {s : State} {m : MethodId} {args : Array Value} {below : List Frame} {meth : Method} {c : Code} {D : va_G} {cI cZ cJ : ClassId} {ad : Nat → Nat} {rest w0 : va_W} (C : XC p rm_X6_isFilter s m args meth c cX6_isFilter 2 (some .boolean) RX6 wsX6_isFilter D (t3 cI cZ cJ)) {S : St} {x1 : Int32} {r : Int32} (h : X6_isFilter S x1 = some r) : XW p l e rm_X6_isFilter s m args below meth c D w0 2 (MQ below (QI D (t3 cI cZ cJ) w0 (wM cI cZ ad S rest) s.heap.size r) args s 0 0 (va_A w0 s.heap.size)) (wM cI cZ ad S rest) 0 0 0 [(0, .ref (ad 0)), (1, .int x1)] [] := by
  unfold X6_isFilter at h
  refine x_iload_n C 1 dX6_isFilter_0 rfl ?_
  refine x_iconst C (v := 0) dX6_isFilter_1 (by decide) ?_
  refine x_aload_n C 0 dX6_isFilter_2 rfl ?_
  refine x_get C (R' := RX6) (T := TX6) (N := 26) (ci := 6) 0 14 rfl rfl (by decide) rfl rfl hi_X6_isFilter_6 lk_X6_isFilter_146 dX6_isFilter_3 ?_
  refine x_iconst C (v := 1) dX6_isFilter_6 (by decide) ?_
  refine x_isub C dX6_isFilter_7 ?_
  obtain ⟨v8, hg8, h⟩ := ob h
  refine x_ci0 (x_runS C (As := [.int x1, .int 0, .int ((S 0 14) - 1)]) (rest := []) (c_X6_isIn hg8) (cw_X6_isFilter_X6_isIn_84 C) rfl (Nat.le_of_ble_eq_true rfl) dX6_isFilter_8 ⟨Nat.zero_le _, Nat.zero_le _⟩) ?_
  obtain ⟨g11, h⟩ := gd h
  obtain rfl := Option.some.inj h
  exact x_zret C g11 dX6_isFilter_11
set_option maxRecDepth 100000 in
theorem c_X6_isFilter {l : Launch} {D : va_G} {cI cZ cJ : ClassId} {ad : Nat → Nat} {S : St} {rest : va_W} {x1 : Int32} {r : Int32} (h : X6_isFilter S x1 = some r) : ∀ sz, Met l yX6_isFilter wsX6_isFilter rm_X6_isFilter (PC D (t3 cI cZ cJ) [.ref (ad 0), .int x1] (wM cI cZ ad S rest) sz) (QI D (t3 cI cZ cJ) (wM cI cZ ad S rest) (wM cI cZ ad S rest) sz r) 0 0 (va_A (wM cI cZ ad S rest) sz) := by
  refine x_met (Qc := fun sz => QI D (t3 cI cZ cJ) (wM cI cZ ad S rest) (wM cI cZ ad S rest) sz r) RX6 rfl (by decide) rfl (Nat.le_of_ble_eq_true rfl) (fun p e s m args below meth c C => ?_)
  exact X_X6_isFilter C h
/-! EntryMastersModel.join(III)I -/
abbrev rm_X6_join : Room := { frames := 2, cells := 0, slots := 0, locals := 43 }
theorem hi_X6_join_6 : ∀ z ∈ u_ws RX6 TX6 26, z ∈ wsX6_join := by decide +kernel
theorem lk_X6_join_80 : Cond.fieldLink RX6 80 RX6 "thrown" "I" ∈ wsX6_join := by decide +kernel
theorem lk_X6_join_146 : Cond.fieldLink RX6 146 RX6 "filters" "I" ∈ wsX6_join := by decide +kernel
theorem cw_X6_join_X6_isFilter_152 {p : Program} {s : State} {m : MethodId} {args : Array Value} {meth : Method} {c : Code} {D : va_G} {tys : List (ClassId × FieldType)} {R : Room} (C : XC p R s m args meth c cX6_join 4 (some .int) RX6 wsX6_join D tys) : CallW rm_X6_join s args RX6 RX6 152 yX6_isFilter cX6_isFilter 2 (some .boolean) wsX6_isFilter rm_X6_isFilter 0 0 1 := cwV 1 C.2.2.2.2.1 gX6_join_X6_isFilter rfl rfl rfl (by decide +kernel) ⟨Nat.le_of_ble_eq_true rfl, Nat.le_of_ble_eq_true rfl⟩
theorem cw_X6_join_X6_isIn_84 {p : Program} {s : State} {m : MethodId} {args : Array Value} {meth : Method} {c : Code} {D : va_G} {tys : List (ClassId × FieldType)} {R : Room} (C : XC p R s m args meth c cX6_join 4 (some .int) RX6 wsX6_join D tys) : CallB rm_X6_join s args RX6 84 yX6_isIn cX6_isIn 3 (some .boolean) wsX6_isIn rm_X6_isIn 0 0 3 ∧ (Cond.static yX6_isIn).before args s = true := va_cwS 3 C.2.2.2.2.1 gX6_join_X6_isIn rfl rfl rfl (by decide +kernel) ⟨Nat.le_of_ble_eq_true rfl, Nat.le_of_ble_eq_true rfl⟩
theorem cw_X6_join_X6_makes_149 {p : Program} {s : State} {m : MethodId} {args : Array Value} {meth : Method} {c : Code} {D : va_G} {tys : List (ClassId × FieldType)} {R : Room} (C : XC p R s m args meth c cX6_join 4 (some .int) RX6 wsX6_join D tys) : CallW rm_X6_join s args RX6 RX6 149 yX6_makes cX6_makes 4 (some .int) wsX6_makes rm_X6_makes 0 0 3 := cwV 3 C.2.2.2.2.1 gX6_join_X6_makes rfl rfl rfl (by decide +kernel) ⟨Nat.le_of_ble_eq_true rfl, Nat.le_of_ble_eq_true rfl⟩
def X6_join_b71 (S : St) (s0 : Int32) : Option (Int32 × St) :=
  some (s0, S)
set_option maxHeartbeats 4000000 in
set_option maxRecDepth 100000 in
theorem X_X6_join_b71 {p : Program} {l : Launch} {e : Env} {s : State} {m : MethodId} {args : Array Value} {below : List Frame} {meth : Method} {c : Code} {D : va_G} {cI cZ cJ : ClassId} {ad : Nat → Nat} {rest w0 : va_W} (C : XC p rm_X6_join s m args meth c cX6_join 4 (some .int) RX6 wsX6_join D (t3 cI cZ cJ)) {S : St} {s0 : Int32} {r : Int32 × St} (h : X6_join_b71 S s0 = some r) : XW p l e rm_X6_join s m args below meth c D w0 4 (MQ below (QI D (t3 cI cZ cJ) w0 (wM cI cZ ad r.2 rest) s.heap.size r.1) args s 0 0 (va_A w0 s.heap.size)) (wM cI cZ ad S rest) 0 0 71 [] [.int s0] := by
  unfold X6_join_b71 at h
  obtain rfl := Option.some.inj h
  exact x_iret C dX6_join_71
def X6_join_b51 (S : St) (x1 x2 x3 : Int32) : Option (Int32 × St) :=
  if (S 0 25) ≤ 0 then ((X6_makes S (3 + x1) x2 x3).bind fun q68 => X6_join_b71 q68.2 q68.1) else (X6_join_b71 S 0)
set_option maxHeartbeats 4000000 in
set_option maxRecDepth 100000 in
theorem X_X6_join_b51 {p : Program} {l : Launch} {e : Env} {s : State} {m : MethodId} {args : Array Value} {below : List Frame} {meth : Method} {c : Code} {D : va_G} {cI cZ cJ : ClassId} {ad : Nat → Nat} {rest w0 : va_W} (C : XC p rm_X6_join s m args meth c cX6_join 4 (some .int) RX6 wsX6_join D (t3 cI cZ cJ)) {S : St} {x1 x2 x3 : Int32} {r : Int32 × St} (h : X6_join_b51 S x1 x2 x3 = some r) : XW p l e rm_X6_join s m args below meth c D w0 4 (MQ below (QI D (t3 cI cZ cJ) w0 (wM cI cZ ad r.2 rest) s.heap.size r.1) args s 0 0 (va_A w0 s.heap.size)) (wM cI cZ ad S rest) 0 0 51 [(0, .ref (ad 0)), (1, .int x1), (2, .int x2), (3, .int x3)] [] := by
  unfold X6_join_b51 at h
  refine x_aload_n C 0 dX6_join_51 rfl ?_
  refine x_get C (R' := RX6) (T := TX6) (N := 26) (ci := 6) 0 25 rfl rfl (by decide) rfl rfl hi_X6_join_6 lk_X6_join_80 dX6_join_52 ?_
  refine x_if_le C (t := 62) dX6_join_55 (by decide) (fun c55 => ?_) (fun c55 => ?_)
  · replace h := (if_pos c55).symm.trans h
    refine x_aload_n C 0 dX6_join_62 rfl ?_
    refine x_iconst C (v := 3) dX6_join_63 (by decide) ?_
    refine x_iload_n C 1 dX6_join_64 rfl ?_
    refine x_iadd C dX6_join_65 ?_
    refine x_iload_n C 2 dX6_join_66 rfl ?_
    refine x_iload_n C 3 dX6_join_67 rfl ?_
    obtain ⟨⟨v68, S68⟩, hg68, h⟩ := ob h
    refine x_ci0 (x_runV C (As := [.int (3 + x1), .int x2, .int x3]) (rest := []) (c_X6_makes hg68) (cw_X6_join_X6_makes_149 C) 0 rfl rfl rfl (Nat.le_of_ble_eq_true rfl) dX6_join_68 ⟨Nat.zero_le _, Nat.zero_le _⟩) ?_
    refine x_locals (lv' := []) [] rfl ?_
    exact X_X6_join_b71 C h
  · replace h := (if_neg c55).symm.trans h
    refine x_iconst C (v := 0) dX6_join_58 (by decide) ?_
    refine x_goto C (t := 71) dX6_join_59 (by decide) ?_
    refine x_locals (lv' := []) [] rfl ?_
    exact X_X6_join_b71 C h
def X6_join_b48 (S : St) (x1 x2 x3 s0 : Int32) : Option (Int32 × St) :=
  X6_join_b51 (up S 0 (upd (S 0) 25 s0)) x1 x2 x3
set_option maxHeartbeats 4000000 in
set_option maxRecDepth 100000 in
theorem X_X6_join_b48 {p : Program} {l : Launch} {e : Env} {s : State} {m : MethodId} {args : Array Value} {below : List Frame} {meth : Method} {c : Code} {D : va_G} {cI cZ cJ : ClassId} {ad : Nat → Nat} {rest w0 : va_W} (C : XC p rm_X6_join s m args meth c cX6_join 4 (some .int) RX6 wsX6_join D (t3 cI cZ cJ)) {S : St} {x1 x2 x3 s0 : Int32} {r : Int32 × St} (h : X6_join_b48 S x1 x2 x3 s0 = some r) : XW p l e rm_X6_join s m args below meth c D w0 4 (MQ below (QI D (t3 cI cZ cJ) w0 (wM cI cZ ad r.2 rest) s.heap.size r.1) args s 0 0 (va_A w0 s.heap.size)) (wM cI cZ ad S rest) 0 0 48 [(0, .ref (ad 0)), (1, .int x1), (2, .int x2), (3, .int x3)] [.int s0, .ref (ad 0)] := by
  unfold X6_join_b48 at h
  refine x_put C (R' := RX6) (T := TX6) (N := 26) (ci := 6) tyX6 tyX6_ok nmX6 0 25 rfl rfl (by decide) rfl rfl (lt_ble rfl) rfl hi_X6_join_6 lk_X6_join_80 dX6_join_48 (wM_f0_25 cI cZ ad S rest s0) ?_
  exact X_X6_join_b51 C h
def X6_join_b17 (S : St) (x1 x2 x3 : Int32) : Option (Int32 × St) :=
  X6_join_b48 S x1 x2 x3 1
set_option maxHeartbeats 4000000 in
set_option maxRecDepth 100000 in
theorem X_X6_join_b17 {p : Program} {l : Launch} {e : Env} {s : State} {m : MethodId} {args : Array Value} {below : List Frame} {meth : Method} {c : Code} {D : va_G} {cI cZ cJ : ClassId} {ad : Nat → Nat} {rest w0 : va_W} (C : XC p rm_X6_join s m args meth c cX6_join 4 (some .int) RX6 wsX6_join D (t3 cI cZ cJ)) {S : St} {x1 x2 x3 : Int32} {r : Int32 × St} (h : X6_join_b17 S x1 x2 x3 = some r) : XW p l e rm_X6_join s m args below meth c D w0 4 (MQ below (QI D (t3 cI cZ cJ) w0 (wM cI cZ ad r.2 rest) s.heap.size r.1) args s 0 0 (va_A w0 s.heap.size)) (wM cI cZ ad S rest) 0 0 17 [(0, .ref (ad 0)), (1, .int x1), (2, .int x2), (3, .int x3)] [.ref (ad 0)] := by
  unfold X6_join_b17 at h
  refine x_iconst C (v := 1) dX6_join_17 (by decide) ?_
  refine x_goto C (t := 48) dX6_join_18 (by decide) ?_
  exact X_X6_join_b48 C h
def X6_join (S : St) (x1 x2 x3 : Int32) : Option (Int32 × St) :=
  (X6_isFilter S x2).bind fun v3 => if v3 = 0 then (X6_join_b17 S x1 x2 x3) else ((X6_isFilter S x3).bind fun v11 => if v11 = 0 then (X6_join_b17 S x1 x2 x3) else ((X6_isIn x1 0 2).bind fun v24 => if v24 = 0 then (X6_join_b48 S x1 x2 x3 2) else (if (S 0 14) = 20 then (X6_join_b48 S x1 x2 x3 3) else (X6_join_b48 S x1 x2 x3 0))))
set_option maxHeartbeats 4000000 in
set_option maxRecDepth 100000 in
theorem X_X6_join {p : Program} {l : Launch} {e : Env} {s : State} {m : MethodId} {args : Array Value} {below : List Frame} {meth : Method} {c : Code} {D : va_G} {cI cZ cJ : ClassId} {ad : Nat → Nat} {rest w0 : va_W} (C : XC p rm_X6_join s m args meth c cX6_join 4 (some .int) RX6 wsX6_join D (t3 cI cZ cJ)) {S : St} {x1 x2 x3 : Int32} {r : Int32 × St} (h : X6_join S x1 x2 x3 = some r) : XW p l e rm_X6_join s m args below meth c D w0 4 (MQ below (QI D (t3 cI cZ cJ) w0 (wM cI cZ ad r.2 rest) s.heap.size r.1) args s 0 0 (va_A w0 s.heap.size)) (wM cI cZ ad S rest) 0 0 0 [(0, .ref (ad 0)), (1, .int x1), (2, .int x2), (3, .int x3)] [] := by
  unfold X6_join at h
  refine x_aload_n C 0 dX6_join_0 rfl ?_
  refine x_aload_n C 0 dX6_join_1 rfl ?_
  refine x_iload_n C 2 dX6_join_2 rfl ?_
  obtain ⟨v3, hg3, h⟩ := ob h
  refine x_ci0 (x_runV C (As := [.int x2]) (rest := [.ref (ad 0)]) (c_X6_isFilter hg3) (cw_X6_join_X6_isFilter_152 C) 0 rfl rfl rfl (Nat.le_of_ble_eq_true rfl) dX6_join_3 ⟨Nat.zero_le _, Nat.zero_le _⟩) ?_
  refine x_if_eq C (t := 17) dX6_join_6 (by decide) (fun c6 => ?_) (fun c6 => ?_)
  · replace h := (if_pos c6).symm.trans h
    exact X_X6_join_b17 C h
  · replace h := (if_neg c6).symm.trans h
    refine x_aload_n C 0 dX6_join_9 rfl ?_
    refine x_iload_n C 3 dX6_join_10 rfl ?_
    obtain ⟨v11, hg11, h⟩ := ob h
    refine x_ci0 (x_runV C (As := [.int x3]) (rest := [.ref (ad 0)]) (c_X6_isFilter hg11) (cw_X6_join_X6_isFilter_152 C) 0 rfl rfl rfl (Nat.le_of_ble_eq_true rfl) dX6_join_11 ⟨Nat.zero_le _, Nat.zero_le _⟩) ?_
    refine x_if_ne C (t := 21) dX6_join_14 (by decide) (fun c14 => ?_) (fun c14 => ?_)
    · replace h := (if_neg c14).symm.trans h
      refine x_iload_n C 1 dX6_join_21 rfl ?_
      refine x_iconst C (v := 0) dX6_join_22 (by decide) ?_
      refine x_iconst C (v := 2) dX6_join_23 (by decide) ?_
      obtain ⟨v24, hg24, h⟩ := ob h
      refine x_ci0 (x_runS C (As := [.int x1, .int 0, .int 2]) (rest := [.ref (ad 0)]) (c_X6_isIn hg24) (cw_X6_join_X6_isIn_84 C) rfl (Nat.le_of_ble_eq_true rfl) dX6_join_24 ⟨Nat.zero_le _, Nat.zero_le _⟩) ?_
      refine x_if_ne C (t := 34) dX6_join_27 (by decide) (fun c27 => ?_) (fun c27 => ?_)
      · replace h := (if_neg c27).symm.trans h
        refine x_aload_n C 0 dX6_join_34 rfl ?_
        refine x_get C (R' := RX6) (T := TX6) (N := 26) (ci := 6) 0 14 rfl rfl (by decide) rfl rfl hi_X6_join_6 lk_X6_join_146 dX6_join_35 ?_
        refine x_bipush C (v := 20) dX6_join_38 (by decide) ?_
        refine x_icmp_ne C (t := 47) dX6_join_40 (by decide) (fun c40 => ?_) (fun c40 => ?_)
        · replace h := (if_neg c40).symm.trans h
          refine x_iconst C (v := 0) dX6_join_47 (by decide) ?_
          exact X_X6_join_b48 C h
        · replace h := (if_pos c40).symm.trans h
          refine x_iconst C (v := 3) dX6_join_43 (by decide) ?_
          refine x_goto C (t := 48) dX6_join_44 (by decide) ?_
          exact X_X6_join_b48 C h
      · replace h := (if_pos c27).symm.trans h
        refine x_iconst C (v := 2) dX6_join_30 (by decide) ?_
        refine x_goto C (t := 48) dX6_join_31 (by decide) ?_
        exact X_X6_join_b48 C h
    · replace h := (if_pos c14).symm.trans h
      exact X_X6_join_b17 C h
set_option maxRecDepth 100000 in
theorem c_X6_join {l : Launch} {D : va_G} {cI cZ cJ : ClassId} {ad : Nat → Nat} {S : St} {rest : va_W} {x1 x2 x3 : Int32} {r : Int32 × St} (h : X6_join S x1 x2 x3 = some r) : ∀ sz, Met l yX6_join wsX6_join rm_X6_join (PC D (t3 cI cZ cJ) [.ref (ad 0), .int x1, .int x2, .int x3] (wM cI cZ ad S rest) sz) (QI D (t3 cI cZ cJ) (wM cI cZ ad S rest) (wM cI cZ ad r.2 rest) sz r.1) 0 0 (va_A (wM cI cZ ad S rest) sz) := by
  refine x_met (Qc := fun sz => QI D (t3 cI cZ cJ) (wM cI cZ ad S rest) (wM cI cZ ad r.2 rest) sz r.1) RX6 rfl (by decide) rfl (Nat.le_of_ble_eq_true rfl) (fun p e s m args below meth c C => ?_)
  exact X_X6_join C h
/-! EntryMastersModel.tested(II)I -/
abbrev rm_X6_tested : Room := { frames := 1, cells := 0, slots := 0, locals := 22 }
theorem hi_X6_tested_6 : ∀ z ∈ u_ws RX6 TX6 26, z ∈ wsX6_tested := by decide +kernel
theorem lk_X6_tested_50 : Cond.fieldLink RX6 50 RX6 "sort" "[I" ∈ wsX6_tested := by decide +kernel
theorem lk_X6_tested_53 : Cond.fieldLink RX6 53 RX6 "first" "[I" ∈ wsX6_tested := by decide +kernel
theorem lk_X6_tested_56 : Cond.fieldLink RX6 56 RX6 "second" "[I" ∈ wsX6_tested := by decide +kernel
theorem lk_X6_tested_74 : Cond.fieldLink RX6 74 RX6 "value" "[I" ∈ wsX6_tested := by decide +kernel
theorem cw_X6_tested_X6_allowed_103 {p : Program} {s : State} {m : MethodId} {args : Array Value} {meth : Method} {c : Code} {D : va_G} {tys : List (ClassId × FieldType)} {R : Room} (C : XC p R s m args meth c cX6_tested 5 (some .int) RX6 wsX6_tested D tys) : CallW rm_X6_tested s args RX6 RX6 103 yX6_allowed cX6_allowed 3 (some .boolean) wsX6_allowed rm_X6_allowed 0 0 2 := cwV 2 C.2.2.2.2.1 gX6_tested_X6_allowed rfl rfl rfl (by decide +kernel) ⟨Nat.le_of_ble_eq_true rfl, Nat.le_of_ble_eq_true rfl⟩
def X6_tested_b110 (S : St) (s0 : Int32) : Option (Int32) :=
  some s0
set_option maxHeartbeats 4000000 in
set_option maxRecDepth 100000 in
theorem X_X6_tested_b110 {p : Program} {l : Launch} {e : Env} {s : State} {m : MethodId} {args : Array Value} {below : List Frame} {meth : Method} {c : Code} {D : va_G} {cI cZ cJ : ClassId} {ad : Nat → Nat} {rest w0 : va_W} (C : XC p rm_X6_tested s m args meth c cX6_tested 5 (some .int) RX6 wsX6_tested D (t3 cI cZ cJ)) {S : St} {s0 : Int32} {r : Int32} (h : X6_tested_b110 S s0 = some r) : XW p l e rm_X6_tested s m args below meth c D w0 5 (MQ below (QI D (t3 cI cZ cJ) w0 (wM cI cZ ad S rest) s.heap.size r) args s 0 0 (va_A w0 s.heap.size)) (wM cI cZ ad S rest) 0 0 110 [] [.int s0] := by
  unfold X6_tested_b110 at h
  obtain rfl := Option.some.inj h
  exact x_iret C dX6_tested_110
def X6_tested_b80 (S : St) (x1 x2 s0 : Int32) : Option (Int32) :=
  if inB x1 20 then ((X6_allowed S x2 (S 15 x1.toNatClampNeg)).bind fun v90 => if v90 = 0 then (X6_tested_b110 S (-1)) else (if s0 = 0 then (X6_tested_b110 S 0) else (X6_tested_b110 S 1))) else none
set_option maxHeartbeats 4000000 in
set_option maxRecDepth 100000 in
theorem X_X6_tested_b80 {p : Program} {l : Launch} {e : Env} {s : State} {m : MethodId} {args : Array Value} {below : List Frame} {meth : Method} {c : Code} {D : va_G} {cI cZ cJ : ClassId} {ad : Nat → Nat} {rest w0 : va_W} (C : XC p rm_X6_tested s m args meth c cX6_tested 5 (some .int) RX6 wsX6_tested D (t3 cI cZ cJ)) {S : St} {x1 x2 s0 : Int32} {r : Int32} (h : X6_tested_b80 S x1 x2 s0 = some r) : XW p l e rm_X6_tested s m args below meth c D w0 5 (MQ below (QI D (t3 cI cZ cJ) w0 (wM cI cZ ad S rest) s.heap.size r) args s 0 0 (va_A w0 s.heap.size)) (wM cI cZ ad S rest) 0 0 80 [(0, .ref (ad 0)), (1, .int x1), (2, .int x2)] [.int s0] := by
  unfold X6_tested_b80 at h
  refine x_istore C (lv' := [(0, .ref (ad 0)), (1, .int x1), (2, .int x2), (4, .int s0)]) dX6_tested_80 (by decide) rfl ?_
  refine x_aload_n C 0 dX6_tested_82 rfl ?_
  refine x_iload_n C 2 dX6_tested_83 rfl ?_
  refine x_aload_n C 0 dX6_tested_84 rfl ?_
  refine x_get C (R' := RX6) (T := TX6) (N := 26) (ci := 6) 0 16 rfl rfl (by decide) rfl rfl hi_X6_tested_6 lk_X6_tested_53 dX6_tested_85 ?_
  refine x_iload_n C 1 dX6_tested_88 rfl ?_
  obtain ⟨g89, h⟩ := gdB h
  refine x_iald C 15 rfl g89 dX6_tested_89 ?_
  obtain ⟨v90, hg90, h⟩ := ob h
  refine x_ci0 (x_runV C (As := [.int x2, .int (S 15 x1.toNatClampNeg)]) (rest := []) (c_X6_allowed hg90) (cw_X6_tested_X6_allowed_103 C) 0 rfl rfl rfl (Nat.le_of_ble_eq_true rfl) dX6_tested_90 ⟨Nat.zero_le _, Nat.zero_le _⟩) ?_
  refine x_if_ne C (t := 100) dX6_tested_93 (by decide) (fun c93 => ?_) (fun c93 => ?_)
  · replace h := (if_neg c93).symm.trans h
    refine x_iload C 3 dX6_tested_100 rfl ?_
    refine x_if_eq C (t := 109) dX6_tested_102 (by decide) (fun c102 => ?_) (fun c102 => ?_)
    · replace h := (if_pos c102).symm.trans h
      refine x_iconst C (v := 0) dX6_tested_109 (by decide) ?_
      refine x_locals (lv' := []) [] rfl ?_
      exact X_X6_tested_b110 C h
    · replace h := (if_neg c102).symm.trans h
      refine x_iconst C (v := 1) dX6_tested_105 (by decide) ?_
      refine x_goto C (t := 110) dX6_tested_106 (by decide) ?_
      refine x_locals (lv' := []) [] rfl ?_
      exact X_X6_tested_b110 C h
  · replace h := (if_pos c93).symm.trans h
    refine x_iconst C (v := (-1)) dX6_tested_96 (by decide) ?_
    refine x_goto C (t := 110) dX6_tested_97 (by decide) ?_
    refine x_locals (lv' := []) [] rfl ?_
    exact X_X6_tested_b110 C h
def X6_tested (S : St) (x1 x2 : Int32) : Option (Int32) :=
  if inB x1 20 then (if inB ((4 * x2) + (S 15 x1.toNatClampNeg)) 168 then (if inB x1 20 then (if (S 14 x1.toNatClampNeg) = 0 then (if (S 22 ((4 * x2) + (S 15 x1.toNatClampNeg)).toNatClampNeg) < 0 then (X6_tested_b80 S x1 x2 0) else (X6_tested_b80 S x1 x2 1)) else (if inB x1 20 then (if (S 14 x1.toNatClampNeg) = 1 then (if inB x1 20 then (if (S 22 ((4 * x2) + (S 15 x1.toNatClampNeg)).toNatClampNeg) = (S 16 x1.toNatClampNeg) then (X6_tested_b80 S x1 x2 1) else (X6_tested_b80 S x1 x2 0)) else none) else (if inB x1 20 then (if (S 22 ((4 * x2) + (S 15 x1.toNatClampNeg)).toNatClampNeg) < (S 16 x1.toNatClampNeg) then (X6_tested_b80 S x1 x2 0) else (X6_tested_b80 S x1 x2 1)) else none)) else none)) else none) else none) else none
set_option maxHeartbeats 4000000 in
set_option maxRecDepth 100000 in
theorem X_X6_tested {p : Program} {l : Launch} {e : Env} {s : State} {m : MethodId} {args : Array Value} {below : List Frame} {meth : Method} {c : Code} {D : va_G} {cI cZ cJ : ClassId} {ad : Nat → Nat} {rest w0 : va_W} (C : XC p rm_X6_tested s m args meth c cX6_tested 5 (some .int) RX6 wsX6_tested D (t3 cI cZ cJ)) {S : St} {x1 x2 : Int32} {r : Int32} (h : X6_tested S x1 x2 = some r) : XW p l e rm_X6_tested s m args below meth c D w0 5 (MQ below (QI D (t3 cI cZ cJ) w0 (wM cI cZ ad S rest) s.heap.size r) args s 0 0 (va_A w0 s.heap.size)) (wM cI cZ ad S rest) 0 0 0 [(0, .ref (ad 0)), (1, .int x1), (2, .int x2)] [] := by
  unfold X6_tested at h
  refine x_aload_n C 0 dX6_tested_0 rfl ?_
  refine x_get C (R' := RX6) (T := TX6) (N := 26) (ci := 6) 0 23 rfl rfl (by decide) rfl rfl hi_X6_tested_6 lk_X6_tested_74 dX6_tested_1 ?_
  refine x_iconst C (v := 4) dX6_tested_4 (by decide) ?_
  refine x_iload_n C 2 dX6_tested_5 rfl ?_
  refine x_imul C dX6_tested_6 ?_
  refine x_aload_n C 0 dX6_tested_7 rfl ?_
  refine x_get C (R' := RX6) (T := TX6) (N := 26) (ci := 6) 0 16 rfl rfl (by decide) rfl rfl hi_X6_tested_6 lk_X6_tested_53 dX6_tested_8 ?_
  refine x_iload_n C 1 dX6_tested_11 rfl ?_
  obtain ⟨g12, h⟩ := gdB h
  refine x_iald C 15 rfl g12 dX6_tested_12 ?_
  refine x_iadd C dX6_tested_13 ?_
  obtain ⟨g14, h⟩ := gdB h
  refine x_iald C 22 rfl g14 dX6_tested_14 ?_
  refine x_istore_n C (lv' := [(0, .ref (ad 0)), (1, .int x1), (2, .int x2), (3, .int (S 22 ((4 * x2) + (S 15 x1.toNatClampNeg)).toNatClampNeg))]) dX6_tested_15 (by decide) rfl ?_
  refine x_aload_n C 0 dX6_tested_16 rfl ?_
  refine x_get C (R' := RX6) (T := TX6) (N := 26) (ci := 6) 0 15 rfl rfl (by decide) rfl rfl hi_X6_tested_6 lk_X6_tested_50 dX6_tested_17 ?_
  refine x_iload_n C 1 dX6_tested_20 rfl ?_
  obtain ⟨g21, h⟩ := gdB h
  refine x_iald C 14 rfl g21 dX6_tested_21 ?_
  refine x_if_ne C (t := 37) dX6_tested_22 (by decide) (fun c22 => ?_) (fun c22 => ?_)
  · replace h := (if_neg c22).symm.trans h
    refine x_aload_n C 0 dX6_tested_37 rfl ?_
    refine x_get C (R' := RX6) (T := TX6) (N := 26) (ci := 6) 0 15 rfl rfl (by decide) rfl rfl hi_X6_tested_6 lk_X6_tested_50 dX6_tested_38 ?_
    refine x_iload_n C 1 dX6_tested_41 rfl ?_
    obtain ⟨g42, h⟩ := gdB h
    refine x_iald C 14 rfl g42 dX6_tested_42 ?_
    refine x_iconst C (v := 1) dX6_tested_43 (by decide) ?_
    refine x_icmp_ne C (t := 65) dX6_tested_44 (by decide) (fun c44 => ?_) (fun c44 => ?_)
    · replace h := (if_neg c44).symm.trans h
      refine x_iload_n C 3 dX6_tested_65 rfl ?_
      refine x_aload_n C 0 dX6_tested_66 rfl ?_
      refine x_get C (R' := RX6) (T := TX6) (N := 26) (ci := 6) 0 17 rfl rfl (by decide) rfl rfl hi_X6_tested_6 lk_X6_tested_56 dX6_tested_67 ?_
      refine x_iload_n C 1 dX6_tested_70 rfl ?_
      obtain ⟨g71, h⟩ := gdB h
      refine x_iald C 16 rfl g71 dX6_tested_71 ?_
      refine x_icmp_lt C (t := 79) dX6_tested_72 (by decide) (fun c72 => ?_) (fun c72 => ?_)
      · replace h := (if_pos c72).symm.trans h
        refine x_iconst C (v := 0) dX6_tested_79 (by decide) ?_
        refine x_locals (lv' := [(0, .ref (ad 0)), (1, .int x1), (2, .int x2)]) [0, 1, 2] rfl ?_
        exact X_X6_tested_b80 C h
      · replace h := (if_neg c72).symm.trans h
        refine x_iconst C (v := 1) dX6_tested_75 (by decide) ?_
        refine x_goto C (t := 80) dX6_tested_76 (by decide) ?_
        refine x_locals (lv' := [(0, .ref (ad 0)), (1, .int x1), (2, .int x2)]) [0, 1, 2] rfl ?_
        exact X_X6_tested_b80 C h
    · replace h := (if_pos c44).symm.trans h
      refine x_iload_n C 3 dX6_tested_47 rfl ?_
      refine x_aload_n C 0 dX6_tested_48 rfl ?_
      refine x_get C (R' := RX6) (T := TX6) (N := 26) (ci := 6) 0 17 rfl rfl (by decide) rfl rfl hi_X6_tested_6 lk_X6_tested_56 dX6_tested_49 ?_
      refine x_iload_n C 1 dX6_tested_52 rfl ?_
      obtain ⟨g53, h⟩ := gdB h
      refine x_iald C 16 rfl g53 dX6_tested_53 ?_
      refine x_icmp_ne C (t := 61) dX6_tested_54 (by decide) (fun c54 => ?_) (fun c54 => ?_)
      · replace h := (if_neg c54).symm.trans h
        refine x_iconst C (v := 0) dX6_tested_61 (by decide) ?_
        refine x_goto C (t := 80) dX6_tested_62 (by decide) ?_
        refine x_locals (lv' := [(0, .ref (ad 0)), (1, .int x1), (2, .int x2)]) [0, 1, 2] rfl ?_
        exact X_X6_tested_b80 C h
      · replace h := (if_pos c54).symm.trans h
        refine x_iconst C (v := 1) dX6_tested_57 (by decide) ?_
        refine x_goto C (t := 80) dX6_tested_58 (by decide) ?_
        refine x_locals (lv' := [(0, .ref (ad 0)), (1, .int x1), (2, .int x2)]) [0, 1, 2] rfl ?_
        exact X_X6_tested_b80 C h
  · replace h := (if_pos c22).symm.trans h
    refine x_iload_n C 3 dX6_tested_25 rfl ?_
    refine x_if_lt C (t := 33) dX6_tested_26 (by decide) (fun c26 => ?_) (fun c26 => ?_)
    · replace h := (if_pos c26).symm.trans h
      refine x_iconst C (v := 0) dX6_tested_33 (by decide) ?_
      refine x_goto C (t := 80) dX6_tested_34 (by decide) ?_
      refine x_locals (lv' := [(0, .ref (ad 0)), (1, .int x1), (2, .int x2)]) [0, 1, 2] rfl ?_
      exact X_X6_tested_b80 C h
    · replace h := (if_neg c26).symm.trans h
      refine x_iconst C (v := 1) dX6_tested_29 (by decide) ?_
      refine x_goto C (t := 80) dX6_tested_30 (by decide) ?_
      refine x_locals (lv' := [(0, .ref (ad 0)), (1, .int x1), (2, .int x2)]) [0, 1, 2] rfl ?_
      exact X_X6_tested_b80 C h
set_option maxRecDepth 100000 in
theorem c_X6_tested {l : Launch} {D : va_G} {cI cZ cJ : ClassId} {ad : Nat → Nat} {S : St} {rest : va_W} {x1 x2 : Int32} {r : Int32} (h : X6_tested S x1 x2 = some r) : ∀ sz, Met l yX6_tested wsX6_tested rm_X6_tested (PC D (t3 cI cZ cJ) [.ref (ad 0), .int x1, .int x2] (wM cI cZ ad S rest) sz) (QI D (t3 cI cZ cJ) (wM cI cZ ad S rest) (wM cI cZ ad S rest) sz r) 0 0 (va_A (wM cI cZ ad S rest) sz) := by
  refine x_met (Qc := fun sz => QI D (t3 cI cZ cJ) (wM cI cZ ad S rest) (wM cI cZ ad S rest) sz r) RX6 rfl (by decide) rfl (Nat.le_of_ble_eq_true rfl) (fun p e s m args below meth c C => ?_)
  exact X_X6_tested C h
/-! EntryMastersModel.both(II)I -/
abbrev rm_X6_both : Room := { frames := 0, cells := 0, slots := 0, locals := 0 }
def X6_both_b25  (s0 : Int32) : Option (Int32) :=
  some s0
set_option maxHeartbeats 4000000 in
set_option maxRecDepth 100000 in
theorem X_X6_both_b25 {p : Program} {l : Launch} {e : Env} {s : State} {m : MethodId} {args : Array Value} {below : List Frame} {meth : Method} {c : Code} {D : va_G} {cI cZ cJ : ClassId} {w w0 : va_W} (C : XC p rm_X6_both s m args meth c cX6_both 2 (some .int) RX6 wsX6_both D (t3 cI cZ cJ)) {s0 : Int32} {r : Int32} (h : X6_both_b25 s0 = some r) : XW p l e rm_X6_both s m args below meth c D w0 2 (MQ below (QI D (t3 cI cZ cJ) w0 w s.heap.size r) args s 0 0 (va_A w0 s.heap.size)) w 0 0 25 [] [.int s0] := by
  unfold X6_both_b25 at h
  obtain rfl := Option.some.inj h
  exact x_iret C dX6_both_25
def X6_both_b8  : Option (Int32) :=
  X6_both_b25 0
set_option maxHeartbeats 4000000 in
set_option maxRecDepth 100000 in
theorem X_X6_both_b8 {p : Program} {l : Launch} {e : Env} {s : State} {m : MethodId} {args : Array Value} {below : List Frame} {meth : Method} {c : Code} {D : va_G} {cI cZ cJ : ClassId} {w w0 : va_W} (C : XC p rm_X6_both s m args meth c cX6_both 2 (some .int) RX6 wsX6_both D (t3 cI cZ cJ)) {r : Int32} (h : X6_both_b8  = some r) : XW p l e rm_X6_both s m args below meth c D w0 2 (MQ below (QI D (t3 cI cZ cJ) w0 w s.heap.size r) args s 0 0 (va_A w0 s.heap.size)) w 0 0 8 [] [] := by
  unfold X6_both_b8 at h
  refine x_iconst C (v := 0) dX6_both_8 (by decide) ?_
  refine x_goto C (t := 25) dX6_both_9 (by decide) ?_
  exact X_X6_both_b25 C h
def X6_both_b20  : Option (Int32) :=
  X6_both_b25 (-1)
set_option maxHeartbeats 4000000 in
set_option maxRecDepth 100000 in
theorem X_X6_both_b20 {p : Program} {l : Launch} {e : Env} {s : State} {m : MethodId} {args : Array Value} {below : List Frame} {meth : Method} {c : Code} {D : va_G} {cI cZ cJ : ClassId} {w w0 : va_W} (C : XC p rm_X6_both s m args meth c cX6_both 2 (some .int) RX6 wsX6_both D (t3 cI cZ cJ)) {r : Int32} (h : X6_both_b20  = some r) : XW p l e rm_X6_both s m args below meth c D w0 2 (MQ below (QI D (t3 cI cZ cJ) w0 w s.heap.size r) args s 0 0 (va_A w0 s.heap.size)) w 0 0 20 [] [] := by
  unfold X6_both_b20 at h
  refine x_iconst C (v := (-1)) dX6_both_20 (by decide) ?_
  refine x_goto C (t := 25) dX6_both_21 (by decide) ?_
  exact X_X6_both_b25 C h
def X6_both  (x0 x1 : Int32) : Option (Int32) :=
  if x0 = 0 then (X6_both_b8) else (if x1 = 0 then (X6_both_b8) else (if x0 < 0 then (X6_both_b20) else (if 0 ≤ x1 then (X6_both_b25 1) else (X6_both_b20))))
set_option maxHeartbeats 4000000 in
set_option maxRecDepth 100000 in
theorem X_X6_both {p : Program} {l : Launch} {e : Env} {s : State} {m : MethodId} {args : Array Value} {below : List Frame} {meth : Method} {c : Code} {D : va_G} {cI cZ cJ : ClassId} {w w0 : va_W} (C : XC p rm_X6_both s m args meth c cX6_both 2 (some .int) RX6 wsX6_both D (t3 cI cZ cJ)) {x0 x1 : Int32} {r : Int32} (h : X6_both x0 x1 = some r) : XW p l e rm_X6_both s m args below meth c D w0 2 (MQ below (QI D (t3 cI cZ cJ) w0 w s.heap.size r) args s 0 0 (va_A w0 s.heap.size)) w 0 0 0 [(0, .int x0), (1, .int x1)] [] := by
  unfold X6_both at h
  refine x_iload_n C 0 dX6_both_0 rfl ?_
  refine x_if_eq C (t := 8) dX6_both_1 (by decide) (fun c1 => ?_) (fun c1 => ?_)
  · replace h := (if_pos c1).symm.trans h
    refine x_locals (lv' := []) [] rfl ?_
    exact X_X6_both_b8 C h
  · replace h := (if_neg c1).symm.trans h
    refine x_iload_n C 1 dX6_both_4 rfl ?_
    refine x_if_ne C (t := 12) dX6_both_5 (by decide) (fun c5 => ?_) (fun c5 => ?_)
    · replace h := (if_neg c5).symm.trans h
      refine x_iload_n C 0 dX6_both_12 rfl ?_
      refine x_if_lt C (t := 20) dX6_both_13 (by decide) (fun c13 => ?_) (fun c13 => ?_)
      · replace h := (if_pos c13).symm.trans h
        refine x_locals (lv' := []) [] rfl ?_
        exact X_X6_both_b20 C h
      · replace h := (if_neg c13).symm.trans h
        refine x_iload_n C 1 dX6_both_16 rfl ?_
        refine x_if_ge C (t := 24) dX6_both_17 (by decide) (fun c17 => ?_) (fun c17 => ?_)
        · replace h := (if_pos c17).symm.trans h
          refine x_iconst C (v := 1) dX6_both_24 (by decide) ?_
          refine x_locals (lv' := []) [] rfl ?_
          exact X_X6_both_b25 C h
        · replace h := (if_neg c17).symm.trans h
          refine x_locals (lv' := []) [] rfl ?_
          exact X_X6_both_b20 C h
    · replace h := (if_pos c5).symm.trans h
      refine x_locals (lv' := []) [] rfl ?_
      exact X_X6_both_b8 C h
set_option maxRecDepth 100000 in
theorem c_X6_both {l : Launch} {D : va_G} {cI cZ cJ : ClassId} {w : va_W} {x0 x1 : Int32} {r : Int32} (h : X6_both x0 x1 = some r) : ∀ sz, Met l yX6_both wsX6_both rm_X6_both (PC D (t3 cI cZ cJ) [.int x0, .int x1] w sz) (QI D (t3 cI cZ cJ) w w sz r) 0 0 (va_A w sz) := by
  refine x_met (Qc := fun sz => QI D (t3 cI cZ cJ) w w sz r) RX6 rfl (by decide) rfl (Nat.le_of_ble_eq_true rfl) (fun p e s m args below meth c C => ?_)
  exact X_X6_both C h
/-! EntryMastersModel.not(I)I -/
abbrev rm_X6_not : Room := { frames := 0, cells := 0, slots := 0, locals := 0 }
def X6_not_b11  (s0 : Int32) : Option (Int32) :=
  some s0
set_option maxHeartbeats 4000000 in
set_option maxRecDepth 100000 in
theorem X_X6_not_b11 {p : Program} {l : Launch} {e : Env} {s : State} {m : MethodId} {args : Array Value} {below : List Frame} {meth : Method} {c : Code} {D : va_G} {cI cZ cJ : ClassId} {w w0 : va_W} (C : XC p rm_X6_not s m args meth c cX6_not 1 (some .int) RX6 wsX6_not D (t3 cI cZ cJ)) {s0 : Int32} {r : Int32} (h : X6_not_b11 s0 = some r) : XW p l e rm_X6_not s m args below meth c D w0 1 (MQ below (QI D (t3 cI cZ cJ) w0 w s.heap.size r) args s 0 0 (va_A w0 s.heap.size)) w 0 0 11 [] [.int s0] := by
  unfold X6_not_b11 at h
  obtain rfl := Option.some.inj h
  exact x_iret C dX6_not_11
def X6_not  (x0 : Int32) : Option (Int32) :=
  if 0 ≤ x0 then (X6_not_b11 (1 - x0)) else (X6_not_b11 (-1))
set_option maxHeartbeats 4000000 in
set_option maxRecDepth 100000 in
theorem X_X6_not {p : Program} {l : Launch} {e : Env} {s : State} {m : MethodId} {args : Array Value} {below : List Frame} {meth : Method} {c : Code} {D : va_G} {cI cZ cJ : ClassId} {w w0 : va_W} (C : XC p rm_X6_not s m args meth c cX6_not 1 (some .int) RX6 wsX6_not D (t3 cI cZ cJ)) {x0 : Int32} {r : Int32} (h : X6_not x0 = some r) : XW p l e rm_X6_not s m args below meth c D w0 1 (MQ below (QI D (t3 cI cZ cJ) w0 w s.heap.size r) args s 0 0 (va_A w0 s.heap.size)) w 0 0 0 [(0, .int x0)] [] := by
  unfold X6_not at h
  refine x_iload_n C 0 dX6_not_0 rfl ?_
  refine x_if_ge C (t := 8) dX6_not_1 (by decide) (fun c1 => ?_) (fun c1 => ?_)
  · replace h := (if_pos c1).symm.trans h
    refine x_iconst C (v := 1) dX6_not_8 (by decide) ?_
    refine x_iload_n C 0 dX6_not_9 rfl ?_
    refine x_isub C dX6_not_10 ?_
    refine x_locals (lv' := []) [] rfl ?_
    exact X_X6_not_b11 C h
  · replace h := (if_neg c1).symm.trans h
    refine x_iconst C (v := (-1)) dX6_not_4 (by decide) ?_
    refine x_goto C (t := 11) dX6_not_5 (by decide) ?_
    refine x_locals (lv' := []) [] rfl ?_
    exact X_X6_not_b11 C h
set_option maxRecDepth 100000 in
theorem c_X6_not {l : Launch} {D : va_G} {cI cZ cJ : ClassId} {w : va_W} {x0 : Int32} {r : Int32} (h : X6_not x0 = some r) : ∀ sz, Met l yX6_not wsX6_not rm_X6_not (PC D (t3 cI cZ cJ) [.int x0] w sz) (QI D (t3 cI cZ cJ) w w sz r) 0 0 (va_A w sz) := by
  refine x_met (Qc := fun sz => QI D (t3 cI cZ cJ) w w sz r) RX6 rfl (by decide) rfl (Nat.le_of_ble_eq_true rfl) (fun p e s m args below meth c C => ?_)
  exact X_X6_not C h
/-! EntryMastersModel.filtered(II)I -/
abbrev rm_X6_filtered : Room := { frames := 2, cells := 0, slots := 0, locals := 46 }
theorem hi_X6_filtered_6 : ∀ z ∈ u_ws RX6 TX6 26, z ∈ wsX6_filtered := by decide +kernel
theorem lk_X6_filtered_50 : Cond.fieldLink RX6 50 RX6 "sort" "[I" ∈ wsX6_filtered := by decide +kernel
theorem lk_X6_filtered_53 : Cond.fieldLink RX6 53 RX6 "first" "[I" ∈ wsX6_filtered := by decide +kernel
theorem lk_X6_filtered_56 : Cond.fieldLink RX6 56 RX6 "second" "[I" ∈ wsX6_filtered := by decide +kernel
theorem lk_X6_filtered_59 : Cond.fieldLink RX6 59 RX6 "truth" "[I" ∈ wsX6_filtered := by decide +kernel
theorem cw_X6_filtered_X6_both_158 {p : Program} {s : State} {m : MethodId} {args : Array Value} {meth : Method} {c : Code} {D : va_G} {tys : List (ClassId × FieldType)} {R : Room} (C : XC p R s m args meth c cX6_filtered 6 (some .int) RX6 wsX6_filtered D tys) : CallB rm_X6_filtered s args RX6 158 yX6_both cX6_both 2 (some .int) wsX6_both rm_X6_both 0 0 2 ∧ (Cond.static yX6_both).before args s = true := va_cwS 2 C.2.2.2.2.1 gX6_filtered_X6_both rfl rfl rfl (by decide +kernel) ⟨Nat.le_of_ble_eq_true rfl, Nat.le_of_ble_eq_true rfl⟩
theorem cw_X6_filtered_X6_not_161 {p : Program} {s : State} {m : MethodId} {args : Array Value} {meth : Method} {c : Code} {D : va_G} {tys : List (ClassId × FieldType)} {R : Room} (C : XC p R s m args meth c cX6_filtered 6 (some .int) RX6 wsX6_filtered D tys) : CallB rm_X6_filtered s args RX6 161 yX6_not cX6_not 1 (some .int) wsX6_not rm_X6_not 0 0 1 ∧ (Cond.static yX6_not).before args s = true := va_cwS 1 C.2.2.2.2.1 gX6_filtered_X6_not rfl rfl rfl (by decide +kernel) ⟨Nat.le_of_ble_eq_true rfl, Nat.le_of_ble_eq_true rfl⟩
theorem cw_X6_filtered_X6_tested_155 {p : Program} {s : State} {m : MethodId} {args : Array Value} {meth : Method} {c : Code} {D : va_G} {tys : List (ClassId × FieldType)} {R : Room} (C : XC p R s m args meth c cX6_filtered 6 (some .int) RX6 wsX6_filtered D tys) : CallW rm_X6_filtered s args RX6 RX6 155 yX6_tested cX6_tested 5 (some .int) wsX6_tested rm_X6_tested 0 0 2 := cwV 2 C.2.2.2.2.1 gX6_filtered_X6_tested rfl rfl rfl (by decide +kernel) ⟨Nat.le_of_ble_eq_true rfl, Nat.le_of_ble_eq_true rfl⟩
def X6_filtered_b146 (S : St) (x1 : Int32) : Option (Int32 × St) :=
  if inB x1 20 then (some (S 17 x1.toNatClampNeg, S)) else none
set_option maxHeartbeats 4000000 in
set_option maxRecDepth 100000 in
theorem X_X6_filtered_b146 {p : Program} {l : Launch} {e : Env} {s : State} {m : MethodId} {args : Array Value} {below : List Frame} {meth : Method} {c : Code} {D : va_G} {cI cZ cJ : ClassId} {ad : Nat → Nat} {rest w0 : va_W} (C : XC p rm_X6_filtered s m args meth c cX6_filtered 6 (some .int) RX6 wsX6_filtered D (t3 cI cZ cJ)) {S : St} {x1 : Int32} {r : Int32 × St} (h : X6_filtered_b146 S x1 = some r) : XW p l e rm_X6_filtered s m args below meth c D w0 6 (MQ below (QI D (t3 cI cZ cJ) w0 (wM cI cZ ad r.2 rest) s.heap.size r.1) args s 0 0 (va_A w0 s.heap.size)) (wM cI cZ ad S rest) 0 0 146 [(0, .ref (ad 0)), (1, .int x1)] [] := by
  unfold X6_filtered_b146 at h
  refine x_aload_n C 0 dX6_filtered_146 rfl ?_
  refine x_get C (R' := RX6) (T := TX6) (N := 26) (ci := 6) 0 18 rfl rfl (by decide) rfl rfl hi_X6_filtered_6 lk_X6_filtered_59 dX6_filtered_147 ?_
  refine x_iload_n C 1 dX6_filtered_150 rfl ?_
  obtain ⟨g151, h⟩ := gdB h
  refine x_iald C 17 rfl g151 dX6_filtered_151 ?_
  obtain rfl := Option.some.inj h
  exact x_iret C dX6_filtered_152
def X6_filtered_b140 (S : St) (x1 x2 x3 : Int32) : Option ((St × Int32 × Int32 × Int32) ⊕ (Int32 × St)) :=
  some (.inl (S, x1, x2, x3 + 1))
set_option maxHeartbeats 4000000 in
set_option maxRecDepth 100000 in
theorem X_X6_filtered_b140 {p : Program} {l : Launch} {e : Env} {s : State} {m : MethodId} {args : Array Value} {below : List Frame} {meth : Method} {c : Code} {D : va_G} {cI cZ cJ : ClassId} {ad : Nat → Nat} {rest w0 : va_W} (C : XC p rm_X6_filtered s m args meth c cX6_filtered 6 (some .int) RX6 wsX6_filtered D (t3 cI cZ cJ)) {S : St} {x1 x2 x3 : Int32} {z : (St × Int32 × Int32 × Int32) ⊕ (Int32 × St)} {r : Int32 × St} (h : X6_filtered_b140 S x1 x2 x3 = some z) (hk : ∀ a' : (St × Int32 × Int32 × Int32), z = .inl a' → XW p l e rm_X6_filtered s m args below meth c D w0 6 (MQ below (QI D (t3 cI cZ cJ) w0 (wM cI cZ ad r.2 rest) s.heap.size r.1) args s 0 0 (va_A w0 s.heap.size)) (wM cI cZ ad a'.1 rest) 0 0 2 [(0, .ref (ad 0)), (1, .int a'.2.1), (2, .int a'.2.2.1), (3, .int a'.2.2.2)] []) (hr : ∀ r', z = .inr r' → r' = r) : XW p l e rm_X6_filtered s m args below meth c D w0 6 (MQ below (QI D (t3 cI cZ cJ) w0 (wM cI cZ ad r.2 rest) s.heap.size r.1) args s 0 0 (va_A w0 s.heap.size)) (wM cI cZ ad S rest) 0 0 140 [(0, .ref (ad 0)), (1, .int x1), (2, .int x2), (3, .int x3)] [] := by
  unfold X6_filtered_b140 at h
  refine x_iinc C (v := x3 + 1) (lv' := [(0, .ref (ad 0)), (1, .int x1), (2, .int x2), (3, .int (x3 + 1))]) 3 dX6_filtered_140 rfl rfl (by decide) rfl ?_
  refine x_goto C (t := 2) dX6_filtered_143 (by decide) ?_
  exact hk _ (Option.some.inj h).symm
def X6_filtered_b139 (S : St) (x1 x2 x3 s0 s1 : Int32) : Option ((St × Int32 × Int32 × Int32) ⊕ (Int32 × St)) :=
  if inB s1 20 then (X6_filtered_b140 (up S 17 (upd (S 17) s1.toNatClampNeg s0)) x1 x2 x3) else none
set_option maxHeartbeats 4000000 in
set_option maxRecDepth 100000 in
theorem X_X6_filtered_b139 {p : Program} {l : Launch} {e : Env} {s : State} {m : MethodId} {args : Array Value} {below : List Frame} {meth : Method} {c : Code} {D : va_G} {cI cZ cJ : ClassId} {ad : Nat → Nat} {rest w0 : va_W} (C : XC p rm_X6_filtered s m args meth c cX6_filtered 6 (some .int) RX6 wsX6_filtered D (t3 cI cZ cJ)) {S : St} {x1 x2 x3 s0 s1 : Int32} {z : (St × Int32 × Int32 × Int32) ⊕ (Int32 × St)} {r : Int32 × St} (h : X6_filtered_b139 S x1 x2 x3 s0 s1 = some z) (hk : ∀ a' : (St × Int32 × Int32 × Int32), z = .inl a' → XW p l e rm_X6_filtered s m args below meth c D w0 6 (MQ below (QI D (t3 cI cZ cJ) w0 (wM cI cZ ad r.2 rest) s.heap.size r.1) args s 0 0 (va_A w0 s.heap.size)) (wM cI cZ ad a'.1 rest) 0 0 2 [(0, .ref (ad 0)), (1, .int a'.2.1), (2, .int a'.2.2.1), (3, .int a'.2.2.2)] []) (hr : ∀ r', z = .inr r' → r' = r) : XW p l e rm_X6_filtered s m args below meth c D w0 6 (MQ below (QI D (t3 cI cZ cJ) w0 (wM cI cZ ad r.2 rest) s.heap.size r.1) args s 0 0 (va_A w0 s.heap.size)) (wM cI cZ ad S rest) 0 0 139 [(0, .ref (ad 0)), (1, .int x1), (2, .int x2), (3, .int x3)] [.int s0, .int s1, .ref (ad 17)] := by
  unfold X6_filtered_b139 at h
  obtain ⟨g139, h⟩ := gdB h
  refine x_iast C 17 rfl g139 dX6_filtered_139 (wM_s17 cI cZ ad S rest (upd (S 17) s1.toNatClampNeg s0)) ?_
  exact X_X6_filtered_b140 C h hk hr
def X6_filtered_b59 (S : St) (x1 x2 x3 x4 s0 : Int32) : Option ((St × Int32 × Int32 × Int32) ⊕ (Int32 × St)) :=
  if inB x3 20 then (if 3 ≤ (S 14 x3.toNatClampNeg) then (if inB x3 20 then (if (S 14 x3.toNatClampNeg) = 3 then ((X6_both x4 s0).bind fun v99 => X6_filtered_b139 S x1 x2 x3 v99 x3) else (if inB x3 20 then (if (S 14 x3.toNatClampNeg) = 4 then ((X6_not x4).bind fun v117 => (X6_not s0).bind fun v122 => (X6_both v117 v122).bind fun v125 => (X6_not v125).bind fun v128 => X6_filtered_b139 S x1 x2 x3 v128 x3) else ((X6_not x4).bind fun v136 => X6_filtered_b139 S x1 x2 x3 v136 x3)) else none)) else none) else ((X6_tested S x3 x2).bind fun v79 => X6_filtered_b139 S x1 x2 x3 v79 x3)) else none
set_option maxHeartbeats 4000000 in
set_option maxRecDepth 100000 in
theorem X_X6_filtered_b59 {p : Program} {l : Launch} {e : Env} {s : State} {m : MethodId} {args : Array Value} {below : List Frame} {meth : Method} {c : Code} {D : va_G} {cI cZ cJ : ClassId} {ad : Nat → Nat} {rest w0 : va_W} (C : XC p rm_X6_filtered s m args meth c cX6_filtered 6 (some .int) RX6 wsX6_filtered D (t3 cI cZ cJ)) {S : St} {x1 x2 x3 x4 s0 : Int32} {z : (St × Int32 × Int32 × Int32) ⊕ (Int32 × St)} {r : Int32 × St} (h : X6_filtered_b59 S x1 x2 x3 x4 s0 = some z) (hk : ∀ a' : (St × Int32 × Int32 × Int32), z = .inl a' → XW p l e rm_X6_filtered s m args below meth c D w0 6 (MQ below (QI D (t3 cI cZ cJ) w0 (wM cI cZ ad r.2 rest) s.heap.size r.1) args s 0 0 (va_A w0 s.heap.size)) (wM cI cZ ad a'.1 rest) 0 0 2 [(0, .ref (ad 0)), (1, .int a'.2.1), (2, .int a'.2.2.1), (3, .int a'.2.2.2)] []) (hr : ∀ r', z = .inr r' → r' = r) : XW p l e rm_X6_filtered s m args below meth c D w0 6 (MQ below (QI D (t3 cI cZ cJ) w0 (wM cI cZ ad r.2 rest) s.heap.size r.1) args s 0 0 (va_A w0 s.heap.size)) (wM cI cZ ad S rest) 0 0 59 [(0, .ref (ad 0)), (1, .int x1), (2, .int x2), (3, .int x3), (4, .int x4)] [.int s0] := by
  unfold X6_filtered_b59 at h
  refine x_istore C (lv' := [(0, .ref (ad 0)), (1, .int x1), (2, .int x2), (3, .int x3), (4, .int x4), (5, .int s0)]) dX6_filtered_59 (by decide) rfl ?_
  refine x_aload_n C 0 dX6_filtered_61 rfl ?_
  refine x_get C (R' := RX6) (T := TX6) (N := 26) (ci := 6) 0 18 rfl rfl (by decide) rfl rfl hi_X6_filtered_6 lk_X6_filtered_59 dX6_filtered_62 ?_
  refine x_iload_n C 3 dX6_filtered_65 rfl ?_
  refine x_aload_n C 0 dX6_filtered_66 rfl ?_
  refine x_get C (R' := RX6) (T := TX6) (N := 26) (ci := 6) 0 15 rfl rfl (by decide) rfl rfl hi_X6_filtered_6 lk_X6_filtered_50 dX6_filtered_67 ?_
  refine x_iload_n C 3 dX6_filtered_70 rfl ?_
  obtain ⟨g71, h⟩ := gdB h
  refine x_iald C 14 rfl g71 dX6_filtered_71 ?_
  refine x_iconst C (v := 3) dX6_filtered_72 (by decide) ?_
  refine x_icmp_ge C (t := 85) dX6_filtered_73 (by decide) (fun c73 => ?_) (fun c73 => ?_)
  · replace h := (if_pos c73).symm.trans h
    refine x_aload_n C 0 dX6_filtered_85 rfl ?_
    refine x_get C (R' := RX6) (T := TX6) (N := 26) (ci := 6) 0 15 rfl rfl (by decide) rfl rfl hi_X6_filtered_6 lk_X6_filtered_50 dX6_filtered_86 ?_
    refine x_iload_n C 3 dX6_filtered_89 rfl ?_
    obtain ⟨g90, h⟩ := gdB h
    refine x_iald C 14 rfl g90 dX6_filtered_90 ?_
    refine x_iconst C (v := 3) dX6_filtered_91 (by decide) ?_
    refine x_icmp_ne C (t := 105) dX6_filtered_92 (by decide) (fun c92 => ?_) (fun c92 => ?_)
    · replace h := (if_neg c92).symm.trans h
      refine x_aload_n C 0 dX6_filtered_105 rfl ?_
      refine x_get C (R' := RX6) (T := TX6) (N := 26) (ci := 6) 0 15 rfl rfl (by decide) rfl rfl hi_X6_filtered_6 lk_X6_filtered_50 dX6_filtered_106 ?_
      refine x_iload_n C 3 dX6_filtered_109 rfl ?_
      obtain ⟨g110, h⟩ := gdB h
      refine x_iald C 14 rfl g110 dX6_filtered_110 ?_
      refine x_iconst C (v := 4) dX6_filtered_111 (by decide) ?_
      refine x_icmp_ne C (t := 134) dX6_filtered_112 (by decide) (fun c112 => ?_) (fun c112 => ?_)
      · replace h := (if_neg c112).symm.trans h
        refine x_iload C 4 dX6_filtered_134 rfl ?_
        obtain ⟨v136, hg136, h⟩ := ob h
        refine x_ci0 (x_runS C (As := [.int x4]) (rest := [.int x3, .ref (ad 17)]) (c_X6_not hg136) (cw_X6_filtered_X6_not_161 C) rfl (Nat.le_of_ble_eq_true rfl) dX6_filtered_136 ⟨Nat.zero_le _, Nat.zero_le _⟩) ?_
        refine x_locals (lv' := [(0, .ref (ad 0)), (1, .int x1), (2, .int x2), (3, .int x3)]) [0, 1, 2, 3] rfl ?_
        exact X_X6_filtered_b139 C h hk hr
      · replace h := (if_pos c112).symm.trans h
        refine x_iload C 4 dX6_filtered_115 rfl ?_
        obtain ⟨v117, hg117, h⟩ := ob h
        refine x_ci0 (x_runS C (As := [.int x4]) (rest := [.int x3, .ref (ad 17)]) (c_X6_not hg117) (cw_X6_filtered_X6_not_161 C) rfl (Nat.le_of_ble_eq_true rfl) dX6_filtered_117 ⟨Nat.zero_le _, Nat.zero_le _⟩) ?_
        refine x_iload C 5 dX6_filtered_120 rfl ?_
        obtain ⟨v122, hg122, h⟩ := ob h
        refine x_ci0 (x_runS C (As := [.int s0]) (rest := [.int v117, .int x3, .ref (ad 17)]) (c_X6_not hg122) (cw_X6_filtered_X6_not_161 C) rfl (Nat.le_of_ble_eq_true rfl) dX6_filtered_122 ⟨Nat.zero_le _, Nat.zero_le _⟩) ?_
        obtain ⟨v125, hg125, h⟩ := ob h
        refine x_ci0 (x_runS C (As := [.int v117, .int v122]) (rest := [.int x3, .ref (ad 17)]) (c_X6_both hg125) (cw_X6_filtered_X6_both_158 C) rfl (Nat.le_of_ble_eq_true rfl) dX6_filtered_125 ⟨Nat.zero_le _, Nat.zero_le _⟩) ?_
        obtain ⟨v128, hg128, h⟩ := ob h
        refine x_ci0 (x_runS C (As := [.int v125]) (rest := [.int x3, .ref (ad 17)]) (c_X6_not hg128) (cw_X6_filtered_X6_not_161 C) rfl (Nat.le_of_ble_eq_true rfl) dX6_filtered_128 ⟨Nat.zero_le _, Nat.zero_le _⟩) ?_
        refine x_goto C (t := 139) dX6_filtered_131 (by decide) ?_
        refine x_locals (lv' := [(0, .ref (ad 0)), (1, .int x1), (2, .int x2), (3, .int x3)]) [0, 1, 2, 3] rfl ?_
        exact X_X6_filtered_b139 C h hk hr
    · replace h := (if_pos c92).symm.trans h
      refine x_iload C 4 dX6_filtered_95 rfl ?_
      refine x_iload C 5 dX6_filtered_97 rfl ?_
      obtain ⟨v99, hg99, h⟩ := ob h
      refine x_ci0 (x_runS C (As := [.int x4, .int s0]) (rest := [.int x3, .ref (ad 17)]) (c_X6_both hg99) (cw_X6_filtered_X6_both_158 C) rfl (Nat.le_of_ble_eq_true rfl) dX6_filtered_99 ⟨Nat.zero_le _, Nat.zero_le _⟩) ?_
      refine x_goto C (t := 139) dX6_filtered_102 (by decide) ?_
      refine x_locals (lv' := [(0, .ref (ad 0)), (1, .int x1), (2, .int x2), (3, .int x3)]) [0, 1, 2, 3] rfl ?_
      exact X_X6_filtered_b139 C h hk hr
  · replace h := (if_neg c73).symm.trans h
    refine x_aload_n C 0 dX6_filtered_76 rfl ?_
    refine x_iload_n C 3 dX6_filtered_77 rfl ?_
    refine x_iload_n C 2 dX6_filtered_78 rfl ?_
    obtain ⟨v79, hg79, h⟩ := ob h
    refine x_ci0 (x_runV C (As := [.int x3, .int x2]) (rest := [.int x3, .ref (ad 17)]) (c_X6_tested hg79) (cw_X6_filtered_X6_tested_155 C) 0 rfl rfl rfl (Nat.le_of_ble_eq_true rfl) dX6_filtered_79 ⟨Nat.zero_le _, Nat.zero_le _⟩) ?_
    refine x_goto C (t := 139) dX6_filtered_82 (by decide) ?_
    refine x_locals (lv' := [(0, .ref (ad 0)), (1, .int x1), (2, .int x2), (3, .int x3)]) [0, 1, 2, 3] rfl ?_
    exact X_X6_filtered_b139 C h hk hr
def X6_filtered_b32 (S : St) (x1 x2 x3 s0 : Int32) : Option ((St × Int32 × Int32 × Int32) ⊕ (Int32 × St)) :=
  if inB x3 20 then (if 3 ≤ (S 14 x3.toNatClampNeg) then (if inB x3 20 then (if inB (S 16 x3.toNatClampNeg) 20 then (X6_filtered_b59 S x1 x2 x3 s0 (S 17 (S 16 x3.toNatClampNeg).toNatClampNeg)) else none) else none) else (X6_filtered_b59 S x1 x2 x3 s0 0)) else none
set_option maxHeartbeats 4000000 in
set_option maxRecDepth 100000 in
theorem X_X6_filtered_b32 {p : Program} {l : Launch} {e : Env} {s : State} {m : MethodId} {args : Array Value} {below : List Frame} {meth : Method} {c : Code} {D : va_G} {cI cZ cJ : ClassId} {ad : Nat → Nat} {rest w0 : va_W} (C : XC p rm_X6_filtered s m args meth c cX6_filtered 6 (some .int) RX6 wsX6_filtered D (t3 cI cZ cJ)) {S : St} {x1 x2 x3 s0 : Int32} {z : (St × Int32 × Int32 × Int32) ⊕ (Int32 × St)} {r : Int32 × St} (h : X6_filtered_b32 S x1 x2 x3 s0 = some z) (hk : ∀ a' : (St × Int32 × Int32 × Int32), z = .inl a' → XW p l e rm_X6_filtered s m args below meth c D w0 6 (MQ below (QI D (t3 cI cZ cJ) w0 (wM cI cZ ad r.2 rest) s.heap.size r.1) args s 0 0 (va_A w0 s.heap.size)) (wM cI cZ ad a'.1 rest) 0 0 2 [(0, .ref (ad 0)), (1, .int a'.2.1), (2, .int a'.2.2.1), (3, .int a'.2.2.2)] []) (hr : ∀ r', z = .inr r' → r' = r) : XW p l e rm_X6_filtered s m args below meth c D w0 6 (MQ below (QI D (t3 cI cZ cJ) w0 (wM cI cZ ad r.2 rest) s.heap.size r.1) args s 0 0 (va_A w0 s.heap.size)) (wM cI cZ ad S rest) 0 0 32 [(0, .ref (ad 0)), (1, .int x1), (2, .int x2), (3, .int x3)] [.int s0] := by
  unfold X6_filtered_b32 at h
  refine x_istore C (lv' := [(0, .ref (ad 0)), (1, .int x1), (2, .int x2), (3, .int x3), (4, .int s0)]) dX6_filtered_32 (by decide) rfl ?_
  refine x_aload_n C 0 dX6_filtered_34 rfl ?_
  refine x_get C (R' := RX6) (T := TX6) (N := 26) (ci := 6) 0 15 rfl rfl (by decide) rfl rfl hi_X6_filtered_6 lk_X6_filtered_50 dX6_filtered_35 ?_
  refine x_iload_n C 3 dX6_filtered_38 rfl ?_
  obtain ⟨g39, h⟩ := gdB h
  refine x_iald C 14 rfl g39 dX6_filtered_39 ?_
  refine x_iconst C (v := 3) dX6_filtered_40 (by decide) ?_
  refine x_icmp_ge C (t := 48) dX6_filtered_41 (by decide) (fun c41 => ?_) (fun c41 => ?_)
  · replace h := (if_pos c41).symm.trans h
    refine x_aload_n C 0 dX6_filtered_48 rfl ?_
    refine x_get C (R' := RX6) (T := TX6) (N := 26) (ci := 6) 0 18 rfl rfl (by decide) rfl rfl hi_X6_filtered_6 lk_X6_filtered_59 dX6_filtered_49 ?_
    refine x_aload_n C 0 dX6_filtered_52 rfl ?_
    refine x_get C (R' := RX6) (T := TX6) (N := 26) (ci := 6) 0 17 rfl rfl (by decide) rfl rfl hi_X6_filtered_6 lk_X6_filtered_56 dX6_filtered_53 ?_
    refine x_iload_n C 3 dX6_filtered_56 rfl ?_
    obtain ⟨g57, h⟩ := gdB h
    refine x_iald C 16 rfl g57 dX6_filtered_57 ?_
    obtain ⟨g58, h⟩ := gdB h
    refine x_iald C 17 rfl g58 dX6_filtered_58 ?_
    exact X_X6_filtered_b59 C h hk hr
  · replace h := (if_neg c41).symm.trans h
    refine x_iconst C (v := 0) dX6_filtered_44 (by decide) ?_
    refine x_goto C (t := 59) dX6_filtered_45 (by decide) ?_
    exact X_X6_filtered_b59 C h hk hr
def X6_filtered_H2 (S : St) (x1 x2 x3 : Int32) : Option ((St × Int32 × Int32 × Int32) ⊕ (Int32 × St)) :=
  if x1 < x3 then (exI (X6_filtered_b146 S x1)) else (if inB x3 20 then (if 3 ≤ (S 14 x3.toNatClampNeg) then (if inB x3 20 then (if inB (S 15 x3.toNatClampNeg) 20 then (X6_filtered_b32 S x1 x2 x3 (S 17 (S 15 x3.toNatClampNeg).toNatClampNeg)) else none) else none) else (X6_filtered_b32 S x1 x2 x3 0)) else none)
set_option maxHeartbeats 4000000 in
set_option maxRecDepth 100000 in
theorem X_X6_filtered_H2 {p : Program} {l : Launch} {e : Env} {s : State} {m : MethodId} {args : Array Value} {below : List Frame} {meth : Method} {c : Code} {D : va_G} {cI cZ cJ : ClassId} {ad : Nat → Nat} {rest w0 : va_W} (C : XC p rm_X6_filtered s m args meth c cX6_filtered 6 (some .int) RX6 wsX6_filtered D (t3 cI cZ cJ)) {S : St} {x1 x2 x3 : Int32} {z : (St × Int32 × Int32 × Int32) ⊕ (Int32 × St)} {r : Int32 × St} (h : X6_filtered_H2 S x1 x2 x3 = some z) (hk : ∀ a' : (St × Int32 × Int32 × Int32), z = .inl a' → XW p l e rm_X6_filtered s m args below meth c D w0 6 (MQ below (QI D (t3 cI cZ cJ) w0 (wM cI cZ ad r.2 rest) s.heap.size r.1) args s 0 0 (va_A w0 s.heap.size)) (wM cI cZ ad a'.1 rest) 0 0 2 [(0, .ref (ad 0)), (1, .int a'.2.1), (2, .int a'.2.2.1), (3, .int a'.2.2.2)] []) (hr : ∀ r', z = .inr r' → r' = r) : XW p l e rm_X6_filtered s m args below meth c D w0 6 (MQ below (QI D (t3 cI cZ cJ) w0 (wM cI cZ ad r.2 rest) s.heap.size r.1) args s 0 0 (va_A w0 s.heap.size)) (wM cI cZ ad S rest) 0 0 2 [(0, .ref (ad 0)), (1, .int x1), (2, .int x2), (3, .int x3)] [] := by
  unfold X6_filtered_H2 at h
  refine x_iload_n C 3 dX6_filtered_2 rfl ?_
  refine x_iload_n C 1 dX6_filtered_3 rfl ?_
  refine x_icmp_gt C (t := 146) dX6_filtered_4 (by decide) (fun c4 => ?_) (fun c4 => ?_)
  · replace h := (if_pos c4).symm.trans h
    refine x_locals (lv' := [(0, .ref (ad 0)), (1, .int x1)]) [0, 1] rfl ?_
    obtain ⟨r1, h1, h2⟩ := exI_some h
    obtain rfl := hr r1 h2
    exact X_X6_filtered_b146 C h1
  · replace h := (if_neg c4).symm.trans h
    refine x_aload_n C 0 dX6_filtered_7 rfl ?_
    refine x_get C (R' := RX6) (T := TX6) (N := 26) (ci := 6) 0 15 rfl rfl (by decide) rfl rfl hi_X6_filtered_6 lk_X6_filtered_50 dX6_filtered_8 ?_
    refine x_iload_n C 3 dX6_filtered_11 rfl ?_
    obtain ⟨g12, h⟩ := gdB h
    refine x_iald C 14 rfl g12 dX6_filtered_12 ?_
    refine x_iconst C (v := 3) dX6_filtered_13 (by decide) ?_
    refine x_icmp_ge C (t := 21) dX6_filtered_14 (by decide) (fun c14 => ?_) (fun c14 => ?_)
    · replace h := (if_pos c14).symm.trans h
      refine x_aload_n C 0 dX6_filtered_21 rfl ?_
      refine x_get C (R' := RX6) (T := TX6) (N := 26) (ci := 6) 0 18 rfl rfl (by decide) rfl rfl hi_X6_filtered_6 lk_X6_filtered_59 dX6_filtered_22 ?_
      refine x_aload_n C 0 dX6_filtered_25 rfl ?_
      refine x_get C (R' := RX6) (T := TX6) (N := 26) (ci := 6) 0 16 rfl rfl (by decide) rfl rfl hi_X6_filtered_6 lk_X6_filtered_53 dX6_filtered_26 ?_
      refine x_iload_n C 3 dX6_filtered_29 rfl ?_
      obtain ⟨g30, h⟩ := gdB h
      refine x_iald C 15 rfl g30 dX6_filtered_30 ?_
      obtain ⟨g31, h⟩ := gdB h
      refine x_iald C 17 rfl g31 dX6_filtered_31 ?_
      exact X_X6_filtered_b32 C h hk hr
    · replace h := (if_neg c14).symm.trans h
      refine x_iconst C (v := 0) dX6_filtered_17 (by decide) ?_
      refine x_goto C (t := 32) dX6_filtered_18 (by decide) ?_
      exact X_X6_filtered_b32 C h hk hr
def X6_filtered_L2 (S : St) (x1 x2 x3 : Int32) : Option (Int32 × St) := wloop (fun a' : (St × Int32 × Int32 × Int32) => X6_filtered_H2 a'.1 a'.2.1 a'.2.2.1 a'.2.2.2) 1000 (S, x1, x2, x3)
set_option maxHeartbeats 4000000 in
set_option maxRecDepth 100000 in
theorem X_X6_filtered_L2 {p : Program} {l : Launch} {e : Env} {s : State} {m : MethodId} {args : Array Value} {below : List Frame} {meth : Method} {c : Code} {D : va_G} {cI cZ cJ : ClassId} {ad : Nat → Nat} {rest w0 : va_W} (C : XC p rm_X6_filtered s m args meth c cX6_filtered 6 (some .int) RX6 wsX6_filtered D (t3 cI cZ cJ)) {S : St} {x1 x2 x3 : Int32} {r : Int32 × St} (h : X6_filtered_L2 S x1 x2 x3 = some r) : XW p l e rm_X6_filtered s m args below meth c D w0 6 (MQ below (QI D (t3 cI cZ cJ) w0 (wM cI cZ ad r.2 rest) s.heap.size r.1) args s 0 0 (va_A w0 s.heap.size)) (wM cI cZ ad S rest) 0 0 2 [(0, .ref (ad 0)), (1, .int x1), (2, .int x2), (3, .int x3)] [] :=
  wloop_met (P := (fun a' : (St × Int32 × Int32 × Int32) => XW p l e rm_X6_filtered s m args below meth c D w0 6 (MQ below (QI D (t3 cI cZ cJ) w0 (wM cI cZ ad r.2 rest) s.heap.size r.1) args s 0 0 (va_A w0 s.heap.size)) (wM cI cZ ad a'.1 rest) 0 0 2 [(0, .ref (ad 0)), (1, .int a'.2.1), (2, .int a'.2.2.1), (3, .int a'.2.2.2)] [])) (fun _ _ hz hk hr => X_X6_filtered_H2 C hz hk hr) 1000 (S, x1, x2, x3) h
def X6_filtered (S : St) (x1 x2 : Int32) : Option (Int32 × St) :=
  X6_filtered_L2 S x1 x2 0
set_option maxHeartbeats 4000000 in
set_option maxRecDepth 100000 in
theorem X_X6_filtered {p : Program} {l : Launch} {e : Env} {s : State} {m : MethodId} {args : Array Value} {below : List Frame} {meth : Method} {c : Code} {D : va_G} {cI cZ cJ : ClassId} {ad : Nat → Nat} {rest w0 : va_W} (C : XC p rm_X6_filtered s m args meth c cX6_filtered 6 (some .int) RX6 wsX6_filtered D (t3 cI cZ cJ)) {S : St} {x1 x2 : Int32} {r : Int32 × St} (h : X6_filtered S x1 x2 = some r) : XW p l e rm_X6_filtered s m args below meth c D w0 6 (MQ below (QI D (t3 cI cZ cJ) w0 (wM cI cZ ad r.2 rest) s.heap.size r.1) args s 0 0 (va_A w0 s.heap.size)) (wM cI cZ ad S rest) 0 0 0 [(0, .ref (ad 0)), (1, .int x1), (2, .int x2)] [] := by
  unfold X6_filtered at h
  refine x_iconst C (v := 0) dX6_filtered_0 (by decide) ?_
  refine x_istore_n C (lv' := [(0, .ref (ad 0)), (1, .int x1), (2, .int x2), (3, .int 0)]) dX6_filtered_1 (by decide) rfl ?_
  exact X_X6_filtered_L2 C h
set_option maxRecDepth 100000 in
theorem c_X6_filtered {l : Launch} {D : va_G} {cI cZ cJ : ClassId} {ad : Nat → Nat} {S : St} {rest : va_W} {x1 x2 : Int32} {r : Int32 × St} (h : X6_filtered S x1 x2 = some r) : ∀ sz, Met l yX6_filtered wsX6_filtered rm_X6_filtered (PC D (t3 cI cZ cJ) [.ref (ad 0), .int x1, .int x2] (wM cI cZ ad S rest) sz) (QI D (t3 cI cZ cJ) (wM cI cZ ad S rest) (wM cI cZ ad r.2 rest) sz r.1) 0 0 (va_A (wM cI cZ ad S rest) sz) := by
  refine x_met (Qc := fun sz => QI D (t3 cI cZ cJ) (wM cI cZ ad S rest) (wM cI cZ ad r.2 rest) sz r.1) RX6 rfl (by decide) rfl (Nat.le_of_ble_eq_true rfl) (fun p e s m args below meth c C => ?_)
  exact X_X6_filtered C h
/-! EntryMastersModel.holds(III)I -/
abbrev rm_X6_holds : Room := { frames := 6, cells := 0, slots := 0, locals := 136 }
theorem hi_X6_holds_6 : ∀ z ∈ u_ws RX6 TX6 26, z ∈ wsX6_holds := by decide +kernel
theorem lk_X6_holds_80 : Cond.fieldLink RX6 80 RX6 "thrown" "I" ∈ wsX6_holds := by decide +kernel
theorem cw_X6_holds_X6_filtered_164 {p : Program} {s : State} {m : MethodId} {args : Array Value} {meth : Method} {c : Code} {D : va_G} {tys : List (ClassId × FieldType)} {R : Room} (C : XC p R s m args meth c cX6_holds 4 (some .int) RX6 wsX6_holds D tys) : CallW rm_X6_holds s args RX6 RX6 164 yX6_filtered cX6_filtered 6 (some .int) wsX6_filtered rm_X6_filtered 0 0 2 := cwV 2 C.2.2.2.2.1 gX6_holds_X6_filtered rfl rfl rfl (by decide +kernel) ⟨Nat.le_of_ble_eq_true rfl, Nat.le_of_ble_eq_true rfl⟩
theorem cw_X6_holds_X6_isFilter_152 {p : Program} {s : State} {m : MethodId} {args : Array Value} {meth : Method} {c : Code} {D : va_G} {tys : List (ClassId × FieldType)} {R : Room} (C : XC p R s m args meth c cX6_holds 4 (some .int) RX6 wsX6_holds D tys) : CallW rm_X6_holds s args RX6 RX6 152 yX6_isFilter cX6_isFilter 2 (some .boolean) wsX6_isFilter rm_X6_isFilter 0 0 1 := cwV 1 C.2.2.2.2.1 gX6_holds_X6_isFilter rfl rfl rfl (by decide +kernel) ⟨Nat.le_of_ble_eq_true rfl, Nat.le_of_ble_eq_true rfl⟩
theorem cw_X6_holds_X6_isHere_127 {p : Program} {s : State} {m : MethodId} {args : Array Value} {meth : Method} {c : Code} {D : va_G} {tys : List (ClassId × FieldType)} {R : Room} (C : XC p R s m args meth c cX6_holds 4 (some .int) RX6 wsX6_holds D tys) : CallW rm_X6_holds s args RX6 RX6 127 yX6_isHere cX6_isHere 3 (some .boolean) wsX6_isHere rm_X6_isHere 0 0 2 := cwV 2 C.2.2.2.2.1 gX6_holds_X6_isHere rfl rfl rfl (by decide +kernel) ⟨Nat.le_of_ble_eq_true rfl, Nat.le_of_ble_eq_true rfl⟩
theorem cw_X6_holds_X6_isMaster_120 {p : Program} {s : State} {m : MethodId} {args : Array Value} {meth : Method} {c : Code} {D : va_G} {tys : List (ClassId × FieldType)} {R : Room} (C : XC p R s m args meth c cX6_holds 4 (some .int) RX6 wsX6_holds D tys) : CallB rm_X6_holds s args RX6 120 yX6_isMaster cX6_isMaster 1 (some .boolean) wsX6_isMaster rm_X6_isMaster 0 0 1 ∧ (Cond.static yX6_isMaster).before args s = true := va_cwS 1 C.2.2.2.2.1 gX6_holds_X6_isMaster rfl rfl rfl (by decide +kernel) ⟨Nat.le_of_ble_eq_true rfl, Nat.le_of_ble_eq_true rfl⟩
def X6_holds_b50 (S : St) (s0 : Int32) : Option (Int32 × St) :=
  some (s0, S)
set_option maxHeartbeats 4000000 in
set_option maxRecDepth 100000 in
theorem X_X6_holds_b50 {p : Program} {l : Launch} {e : Env} {s : State} {m : MethodId} {args : Array Value} {below : List Frame} {meth : Method} {c : Code} {D : va_G} {cI cZ cJ : ClassId} {ad : Nat → Nat} {rest w0 : va_W} (C : XC p rm_X6_holds s m args meth c cX6_holds 4 (some .int) RX6 wsX6_holds D (t3 cI cZ cJ)) {S : St} {s0 : Int32} {r : Int32 × St} (h : X6_holds_b50 S s0 = some r) : XW p l e rm_X6_holds s m args below meth c D w0 4 (MQ below (QI D (t3 cI cZ cJ) w0 (wM cI cZ ad r.2 rest) s.heap.size r.1) args s 0 0 (va_A w0 s.heap.size)) (wM cI cZ ad S rest) 0 0 50 [] [.int s0] := by
  unfold X6_holds_b50 at h
  obtain rfl := Option.some.inj h
  exact x_iret C dX6_holds_50
def X6_holds_b33 (S : St) (x2 x3 : Int32) : Option (Int32 × St) :=
  if (S 0 25) ≤ 0 then ((X6_filtered S x2 x3).bind fun q47 => X6_holds_b50 q47.2 q47.1) else (X6_holds_b50 S 0)
set_option maxHeartbeats 4000000 in
set_option maxRecDepth 100000 in
theorem X_X6_holds_b33 {p : Program} {l : Launch} {e : Env} {s : State} {m : MethodId} {args : Array Value} {below : List Frame} {meth : Method} {c : Code} {D : va_G} {cI cZ cJ : ClassId} {ad : Nat → Nat} {rest w0 : va_W} (C : XC p rm_X6_holds s m args meth c cX6_holds 4 (some .int) RX6 wsX6_holds D (t3 cI cZ cJ)) {S : St} {x2 x3 : Int32} {r : Int32 × St} (h : X6_holds_b33 S x2 x3 = some r) : XW p l e rm_X6_holds s m args below meth c D w0 4 (MQ below (QI D (t3 cI cZ cJ) w0 (wM cI cZ ad r.2 rest) s.heap.size r.1) args s 0 0 (va_A w0 s.heap.size)) (wM cI cZ ad S rest) 0 0 33 [(0, .ref (ad 0)), (2, .int x2), (3, .int x3)] [] := by
  unfold X6_holds_b33 at h
  refine x_aload_n C 0 dX6_holds_33 rfl ?_
  refine x_get C (R' := RX6) (T := TX6) (N := 26) (ci := 6) 0 25 rfl rfl (by decide) rfl rfl hi_X6_holds_6 lk_X6_holds_80 dX6_holds_34 ?_
  refine x_if_le C (t := 44) dX6_holds_37 (by decide) (fun c37 => ?_) (fun c37 => ?_)
  · replace h := (if_pos c37).symm.trans h
    refine x_aload_n C 0 dX6_holds_44 rfl ?_
    refine x_iload_n C 1 dX6_holds_45 rfl ?_
    refine x_iload_n C 2 dX6_holds_46 rfl ?_
    obtain ⟨⟨v47, S47⟩, hg47, h⟩ := ob h
    refine x_ci0 (x_runV C (As := [.int x2, .int x3]) (rest := []) (c_X6_filtered hg47) (cw_X6_holds_X6_filtered_164 C) 0 rfl rfl rfl (Nat.le_of_ble_eq_true rfl) dX6_holds_47 ⟨Nat.zero_le _, Nat.zero_le _⟩) ?_
    refine x_locals (lv' := []) [] rfl ?_
    exact X_X6_holds_b50 C h
  · replace h := (if_neg c37).symm.trans h
    refine x_iconst C (v := 0) dX6_holds_40 (by decide) ?_
    refine x_goto C (t := 50) dX6_holds_41 (by decide) ?_
    refine x_locals (lv' := []) [] rfl ?_
    exact X_X6_holds_b50 C h
def X6_holds_b30 (S : St) (x2 x3 s0 : Int32) : Option (Int32 × St) :=
  X6_holds_b33 (up S 0 (upd (S 0) 25 s0)) x2 x3
set_option maxHeartbeats 4000000 in
set_option maxRecDepth 100000 in
theorem X_X6_holds_b30 {p : Program} {l : Launch} {e : Env} {s : State} {m : MethodId} {args : Array Value} {below : List Frame} {meth : Method} {c : Code} {D : va_G} {cI cZ cJ : ClassId} {ad : Nat → Nat} {rest w0 : va_W} (C : XC p rm_X6_holds s m args meth c cX6_holds 4 (some .int) RX6 wsX6_holds D (t3 cI cZ cJ)) {S : St} {x2 x3 s0 : Int32} {r : Int32 × St} (h : X6_holds_b30 S x2 x3 s0 = some r) : XW p l e rm_X6_holds s m args below meth c D w0 4 (MQ below (QI D (t3 cI cZ cJ) w0 (wM cI cZ ad r.2 rest) s.heap.size r.1) args s 0 0 (va_A w0 s.heap.size)) (wM cI cZ ad S rest) 0 0 30 [(0, .ref (ad 0)), (2, .int x2), (3, .int x3)] [.int s0, .ref (ad 0)] := by
  unfold X6_holds_b30 at h
  refine x_put C (R' := RX6) (T := TX6) (N := 26) (ci := 6) tyX6 tyX6_ok nmX6 0 25 rfl rfl (by decide) rfl rfl (lt_ble rfl) rfl hi_X6_holds_6 lk_X6_holds_80 dX6_holds_30 (wM_f0_25 cI cZ ad S rest s0) ?_
  exact X_X6_holds_b33 C h
def X6_holds_b29 (S : St) (x2 x3 : Int32) : Option (Int32 × St) :=
  X6_holds_b30 S x2 x3 1
set_option maxHeartbeats 4000000 in
set_option maxRecDepth 100000 in
theorem X_X6_holds_b29 {p : Program} {l : Launch} {e : Env} {s : State} {m : MethodId} {args : Array Value} {below : List Frame} {meth : Method} {c : Code} {D : va_G} {cI cZ cJ : ClassId} {ad : Nat → Nat} {rest w0 : va_W} (C : XC p rm_X6_holds s m args meth c cX6_holds 4 (some .int) RX6 wsX6_holds D (t3 cI cZ cJ)) {S : St} {x2 x3 : Int32} {r : Int32 × St} (h : X6_holds_b29 S x2 x3 = some r) : XW p l e rm_X6_holds s m args below meth c D w0 4 (MQ below (QI D (t3 cI cZ cJ) w0 (wM cI cZ ad r.2 rest) s.heap.size r.1) args s 0 0 (va_A w0 s.heap.size)) (wM cI cZ ad S rest) 0 0 29 [(0, .ref (ad 0)), (2, .int x2), (3, .int x3)] [.ref (ad 0)] := by
  unfold X6_holds_b29 at h
  refine x_iconst C (v := 1) dX6_holds_29 (by decide) ?_
  exact X_X6_holds_b30 C h
def X6_holds_b22 (S : St) (x2 x3 s0 : Int32) : Option (Int32 × St) :=
  if s0 = 0 then (X6_holds_b29 S x2 x3) else (X6_holds_b30 S x2 x3 0)
set_option maxHeartbeats 4000000 in
set_option maxRecDepth 100000 in
theorem X_X6_holds_b22 {p : Program} {l : Launch} {e : Env} {s : State} {m : MethodId} {args : Array Value} {below : List Frame} {meth : Method} {c : Code} {D : va_G} {cI cZ cJ : ClassId} {ad : Nat → Nat} {rest w0 : va_W} (C : XC p rm_X6_holds s m args meth c cX6_holds 4 (some .int) RX6 wsX6_holds D (t3 cI cZ cJ)) {S : St} {x2 x3 s0 : Int32} {r : Int32 × St} (h : X6_holds_b22 S x2 x3 s0 = some r) : XW p l e rm_X6_holds s m args below meth c D w0 4 (MQ below (QI D (t3 cI cZ cJ) w0 (wM cI cZ ad r.2 rest) s.heap.size r.1) args s 0 0 (va_A w0 s.heap.size)) (wM cI cZ ad S rest) 0 0 22 [(0, .ref (ad 0)), (2, .int x2), (3, .int x3)] [.int s0, .ref (ad 0)] := by
  unfold X6_holds_b22 at h
  refine x_if_eq C (t := 29) dX6_holds_22 (by decide) (fun c22 => ?_) (fun c22 => ?_)
  · replace h := (if_pos c22).symm.trans h
    exact X_X6_holds_b29 C h
  · replace h := (if_neg c22).symm.trans h
    refine x_iconst C (v := 0) dX6_holds_25 (by decide) ?_
    refine x_goto C (t := 30) dX6_holds_26 (by decide) ?_
    exact X_X6_holds_b30 C h
def X6_holds (S : St) (x1 x2 x3 : Int32) : Option (Int32 × St) :=
  (X6_isMaster x1).bind fun v2 => if v2 = 0 then (X6_holds_b29 S x2 x3) else ((X6_isFilter S x2).bind fun v10 => if v10 = 0 then (X6_holds_b29 S x2 x3) else ((X6_isHere S x1 x3).bind fun q19 => X6_holds_b22 q19.2 x2 x3 q19.1))
set_option maxHeartbeats 4000000 in
set_option maxRecDepth 100000 in
theorem X_X6_holds {p : Program} {l : Launch} {e : Env} {s : State} {m : MethodId} {args : Array Value} {below : List Frame} {meth : Method} {c : Code} {D : va_G} {cI cZ cJ : ClassId} {ad : Nat → Nat} {rest w0 : va_W} (C : XC p rm_X6_holds s m args meth c cX6_holds 4 (some .int) RX6 wsX6_holds D (t3 cI cZ cJ)) {S : St} {x1 x2 x3 : Int32} {r : Int32 × St} (h : X6_holds S x1 x2 x3 = some r) : XW p l e rm_X6_holds s m args below meth c D w0 4 (MQ below (QI D (t3 cI cZ cJ) w0 (wM cI cZ ad r.2 rest) s.heap.size r.1) args s 0 0 (va_A w0 s.heap.size)) (wM cI cZ ad S rest) 0 0 0 [(0, .ref (ad 0)), (1, .int x1), (2, .int x2), (3, .int x3)] [] := by
  unfold X6_holds at h
  refine x_aload_n C 0 dX6_holds_0 rfl ?_
  refine x_iload_n C 1 dX6_holds_1 rfl ?_
  obtain ⟨v2, hg2, h⟩ := ob h
  refine x_ci0 (x_runS C (As := [.int x1]) (rest := [.ref (ad 0)]) (c_X6_isMaster hg2) (cw_X6_holds_X6_isMaster_120 C) rfl (Nat.le_of_ble_eq_true rfl) dX6_holds_2 ⟨Nat.zero_le _, Nat.zero_le _⟩) ?_
  refine x_if_eq C (t := 29) dX6_holds_5 (by decide) (fun c5 => ?_) (fun c5 => ?_)
  · replace h := (if_pos c5).symm.trans h
    refine x_locals (lv' := [(0, .ref (ad 0)), (2, .int x2), (3, .int x3)]) [0, 2, 3] rfl ?_
    exact X_X6_holds_b29 C h
  · replace h := (if_neg c5).symm.trans h
    refine x_aload_n C 0 dX6_holds_8 rfl ?_
    refine x_iload_n C 2 dX6_holds_9 rfl ?_
    obtain ⟨v10, hg10, h⟩ := ob h
    refine x_ci0 (x_runV C (As := [.int x2]) (rest := [.ref (ad 0)]) (c_X6_isFilter hg10) (cw_X6_holds_X6_isFilter_152 C) 0 rfl rfl rfl (Nat.le_of_ble_eq_true rfl) dX6_holds_10 ⟨Nat.zero_le _, Nat.zero_le _⟩) ?_
    refine x_if_eq C (t := 29) dX6_holds_13 (by decide) (fun c13 => ?_) (fun c13 => ?_)
    · replace h := (if_pos c13).symm.trans h
      refine x_locals (lv' := [(0, .ref (ad 0)), (2, .int x2), (3, .int x3)]) [0, 2, 3] rfl ?_
      exact X_X6_holds_b29 C h
    · replace h := (if_neg c13).symm.trans h
      refine x_aload_n C 0 dX6_holds_16 rfl ?_
      refine x_iload_n C 1 dX6_holds_17 rfl ?_
      refine x_iload_n C 3 dX6_holds_18 rfl ?_
      obtain ⟨⟨v19, S19⟩, hg19, h⟩ := ob h
      refine x_ci0 (x_runV C (As := [.int x1, .int x3]) (rest := [.ref (ad 0)]) (c_X6_isHere hg19) (cw_X6_holds_X6_isHere_127 C) 0 rfl rfl rfl (Nat.le_of_ble_eq_true rfl) dX6_holds_19 ⟨Nat.zero_le _, Nat.zero_le _⟩) ?_
      refine x_locals (lv' := [(0, .ref (ad 0)), (2, .int x2), (3, .int x3)]) [0, 2, 3] rfl ?_
      exact X_X6_holds_b22 C h
set_option maxRecDepth 100000 in
theorem c_X6_holds {l : Launch} {D : va_G} {cI cZ cJ : ClassId} {ad : Nat → Nat} {S : St} {rest : va_W} {x1 x2 x3 : Int32} {r : Int32 × St} (h : X6_holds S x1 x2 x3 = some r) : ∀ sz, Met l yX6_holds wsX6_holds rm_X6_holds (PC D (t3 cI cZ cJ) [.ref (ad 0), .int x1, .int x2, .int x3] (wM cI cZ ad S rest) sz) (QI D (t3 cI cZ cJ) (wM cI cZ ad S rest) (wM cI cZ ad r.2 rest) sz r.1) 0 0 (va_A (wM cI cZ ad S rest) sz) := by
  refine x_met (Qc := fun sz => QI D (t3 cI cZ cJ) (wM cI cZ ad S rest) (wM cI cZ ad r.2 rest) sz r.1) RX6 rfl (by decide) rfl (Nat.le_of_ble_eq_true rfl) (fun p e s m args below meth c C => ?_)
  exact X_X6_holds C h
/-! EntryMastersModel.counted(II)I -/
abbrev rm_X6_counted : Room := { frames := 0, cells := 0, slots := 0, locals := 0 }
theorem hi_X6_counted_6 : ∀ z ∈ u_ws RX6 TX6 26, z ∈ wsX6_counted := by decide +kernel
theorem lk_X6_counted_43 : Cond.fieldLink RX6 43 RX6 "right" "[I" ∈ wsX6_counted := by decide +kernel
theorem lk_X6_counted_65 : Cond.fieldLink RX6 65 RX6 "parent" "[I" ∈ wsX6_counted := by decide +kernel
def X6_counted_b49 (S : St) (s0 : Int32) : Option (Int32) :=
  some s0
set_option maxHeartbeats 4000000 in
set_option maxRecDepth 100000 in
theorem X_X6_counted_b49 {p : Program} {l : Launch} {e : Env} {s : State} {m : MethodId} {args : Array Value} {below : List Frame} {meth : Method} {c : Code} {D : va_G} {cI cZ cJ : ClassId} {ad : Nat → Nat} {rest w0 : va_W} (C : XC p rm_X6_counted s m args meth c cX6_counted 4 (some .int) RX6 wsX6_counted D (t3 cI cZ cJ)) {S : St} {s0 : Int32} {r : Int32} (h : X6_counted_b49 S s0 = some r) : XW p l e rm_X6_counted s m args below meth c D w0 4 (MQ below (QI D (t3 cI cZ cJ) w0 (wM cI cZ ad S rest) s.heap.size r) args s 0 0 (va_A w0 s.heap.size)) (wM cI cZ ad S rest) 0 0 49 [] [.int s0] := by
  unfold X6_counted_b49 at h
  obtain rfl := Option.some.inj h
  exact x_iret C dX6_counted_49
def X6_counted_b30 (S : St) (x1 x3 : Int32) : Option (Int32) :=
  if 0 ≤ x3 then (if inB ((42 * x1) + x3) 126 then (X6_counted_b49 S (S 12 ((42 * x1) + x3).toNatClampNeg)) else none) else (X6_counted_b49 S 0)
set_option maxHeartbeats 4000000 in
set_option maxRecDepth 100000 in
theorem X_X6_counted_b30 {p : Program} {l : Launch} {e : Env} {s : State} {m : MethodId} {args : Array Value} {below : List Frame} {meth : Method} {c : Code} {D : va_G} {cI cZ cJ : ClassId} {ad : Nat → Nat} {rest w0 : va_W} (C : XC p rm_X6_counted s m args meth c cX6_counted 4 (some .int) RX6 wsX6_counted D (t3 cI cZ cJ)) {S : St} {x1 x3 : Int32} {r : Int32} (h : X6_counted_b30 S x1 x3 = some r) : XW p l e rm_X6_counted s m args below meth c D w0 4 (MQ below (QI D (t3 cI cZ cJ) w0 (wM cI cZ ad S rest) s.heap.size r) args s 0 0 (va_A w0 s.heap.size)) (wM cI cZ ad S rest) 0 0 30 [(0, .ref (ad 0)), (1, .int x1), (3, .int x3)] [] := by
  unfold X6_counted_b30 at h
  refine x_iload_n C 2 dX6_counted_30 rfl ?_
  refine x_if_ge C (t := 38) dX6_counted_31 (by decide) (fun c31 => ?_) (fun c31 => ?_)
  · replace h := (if_pos c31).symm.trans h
    refine x_aload_n C 0 dX6_counted_38 rfl ?_
    refine x_get C (R' := RX6) (T := TX6) (N := 26) (ci := 6) 0 12 rfl rfl (by decide) rfl rfl hi_X6_counted_6 lk_X6_counted_43 dX6_counted_39 ?_
    refine x_bipush C (v := 42) dX6_counted_42 (by decide) ?_
    refine x_iload_n C 1 dX6_counted_44 rfl ?_
    refine x_imul C dX6_counted_45 ?_
    refine x_iload_n C 2 dX6_counted_46 rfl ?_
    refine x_iadd C dX6_counted_47 ?_
    obtain ⟨g48, h⟩ := gdB h
    refine x_iald C 12 rfl g48 dX6_counted_48 ?_
    refine x_locals (lv' := []) [] rfl ?_
    exact X_X6_counted_b49 C h
  · replace h := (if_neg c31).symm.trans h
    refine x_iconst C (v := 0) dX6_counted_34 (by decide) ?_
    refine x_goto C (t := 49) dX6_counted_35 (by decide) ?_
    refine x_locals (lv' := []) [] rfl ?_
    exact X_X6_counted_b49 C h
def X6_counted_H2 (S : St) (x1 x3 : Int32) : Option ((Int32 × Int32) ⊕ (Int32)) :=
  if x3 < 0 then (exI (X6_counted_b30 S x1 x3)) else (if inB ((42 * x1) + x3) 126 then (if 0 ≤ (S 12 ((42 * x1) + x3).toNatClampNeg) then (exI (X6_counted_b30 S x1 x3)) else (if inB x3 42 then (some (.inl (x1, S 19 x3.toNatClampNeg))) else none)) else none)
set_option maxHeartbeats 4000000 in
set_option maxRecDepth 100000 in
theorem X_X6_counted_H2 {p : Program} {l : Launch} {e : Env} {s : State} {m : MethodId} {args : Array Value} {below : List Frame} {meth : Method} {c : Code} {D : va_G} {cI cZ cJ : ClassId} {ad : Nat → Nat} {rest w0 : va_W} (C : XC p rm_X6_counted s m args meth c cX6_counted 4 (some .int) RX6 wsX6_counted D (t3 cI cZ cJ)) {S : St} {x1 x3 : Int32} {z : (Int32 × Int32) ⊕ (Int32)} {r : Int32} (h : X6_counted_H2 S x1 x3 = some z) (hk : ∀ a' : (Int32 × Int32), z = .inl a' → XW p l e rm_X6_counted s m args below meth c D w0 4 (MQ below (QI D (t3 cI cZ cJ) w0 (wM cI cZ ad S rest) s.heap.size r) args s 0 0 (va_A w0 s.heap.size)) (wM cI cZ ad S rest) 0 0 2 [(0, .ref (ad 0)), (1, .int a'.1), (3, .int a'.2)] []) (hr : ∀ r', z = .inr r' → r' = r) : XW p l e rm_X6_counted s m args below meth c D w0 4 (MQ below (QI D (t3 cI cZ cJ) w0 (wM cI cZ ad S rest) s.heap.size r) args s 0 0 (va_A w0 s.heap.size)) (wM cI cZ ad S rest) 0 0 2 [(0, .ref (ad 0)), (1, .int x1), (3, .int x3)] [] := by
  unfold X6_counted_H2 at h
  refine x_iload_n C 2 dX6_counted_2 rfl ?_
  refine x_if_lt C (t := 30) dX6_counted_3 (by decide) (fun c3 => ?_) (fun c3 => ?_)
  · replace h := (if_pos c3).symm.trans h
    obtain ⟨r1, h1, h2⟩ := exI_some h
    obtain rfl := hr r1 h2
    exact X_X6_counted_b30 C h1
  · replace h := (if_neg c3).symm.trans h
    refine x_aload_n C 0 dX6_counted_6 rfl ?_
    refine x_get C (R' := RX6) (T := TX6) (N := 26) (ci := 6) 0 12 rfl rfl (by decide) rfl rfl hi_X6_counted_6 lk_X6_counted_43 dX6_counted_7 ?_
    refine x_bipush C (v := 42) dX6_counted_10 (by decide) ?_
    refine x_iload_n C 1 dX6_counted_12 rfl ?_
    refine x_imul C dX6_counted_13 ?_
    refine x_iload_n C 2 dX6_counted_14 rfl ?_
    refine x_iadd C dX6_counted_15 ?_
    obtain ⟨g16, h⟩ := gdB h
    refine x_iald C 12 rfl g16 dX6_counted_16 ?_
    refine x_if_ge C (t := 30) dX6_counted_17 (by decide) (fun c17 => ?_) (fun c17 => ?_)
    · replace h := (if_pos c17).symm.trans h
      obtain ⟨r1, h1, h2⟩ := exI_some h
      obtain rfl := hr r1 h2
      exact X_X6_counted_b30 C h1
    · replace h := (if_neg c17).symm.trans h
      refine x_aload_n C 0 dX6_counted_20 rfl ?_
      refine x_get C (R' := RX6) (T := TX6) (N := 26) (ci := 6) 0 20 rfl rfl (by decide) rfl rfl hi_X6_counted_6 lk_X6_counted_65 dX6_counted_21 ?_
      refine x_iload_n C 2 dX6_counted_24 rfl ?_
      obtain ⟨g25, h⟩ := gdB h
      refine x_iald C 19 rfl g25 dX6_counted_25 ?_
      refine x_istore_n C (lv' := [(0, .ref (ad 0)), (1, .int x1), (3, .int (S 19 x3.toNatClampNeg))]) dX6_counted_26 (by decide) rfl ?_
      refine x_goto C (t := 2) dX6_counted_27 (by decide) ?_
      exact hk _ (Option.some.inj h).symm
def X6_counted_L2 (S : St) (x1 x3 : Int32) : Option (Int32) := wloop (fun a' : (Int32 × Int32) => X6_counted_H2 S a'.1 a'.2) 1000 (x1, x3)
set_option maxHeartbeats 4000000 in
set_option maxRecDepth 100000 in
theorem X_X6_counted_L2 {p : Program} {l : Launch} {e : Env} {s : State} {m : MethodId} {args : Array Value} {below : List Frame} {meth : Method} {c : Code} {D : va_G} {cI cZ cJ : ClassId} {ad : Nat → Nat} {rest w0 : va_W} (C : XC p rm_X6_counted s m args meth c cX6_counted 4 (some .int) RX6 wsX6_counted D (t3 cI cZ cJ)) {S : St} {x1 x3 : Int32} {r : Int32} (h : X6_counted_L2 S x1 x3 = some r) : XW p l e rm_X6_counted s m args below meth c D w0 4 (MQ below (QI D (t3 cI cZ cJ) w0 (wM cI cZ ad S rest) s.heap.size r) args s 0 0 (va_A w0 s.heap.size)) (wM cI cZ ad S rest) 0 0 2 [(0, .ref (ad 0)), (1, .int x1), (3, .int x3)] [] :=
  wloop_met (P := (fun a' : (Int32 × Int32) => XW p l e rm_X6_counted s m args below meth c D w0 4 (MQ below (QI D (t3 cI cZ cJ) w0 (wM cI cZ ad S rest) s.heap.size r) args s 0 0 (va_A w0 s.heap.size)) (wM cI cZ ad S rest) 0 0 2 [(0, .ref (ad 0)), (1, .int a'.1), (3, .int a'.2)] [])) (fun _ _ hz hk hr => X_X6_counted_H2 C hz hk hr) 1000 (x1, x3) h
def X6_counted (S : St) (x1 x2 : Int32) : Option (Int32) :=
  X6_counted_L2 S x1 x2
set_option maxHeartbeats 4000000 in
set_option maxRecDepth 100000 in
theorem X_X6_counted {p : Program} {l : Launch} {e : Env} {s : State} {m : MethodId} {args : Array Value} {below : List Frame} {meth : Method} {c : Code} {D : va_G} {cI cZ cJ : ClassId} {ad : Nat → Nat} {rest w0 : va_W} (C : XC p rm_X6_counted s m args meth c cX6_counted 4 (some .int) RX6 wsX6_counted D (t3 cI cZ cJ)) {S : St} {x1 x2 : Int32} {r : Int32} (h : X6_counted S x1 x2 = some r) : XW p l e rm_X6_counted s m args below meth c D w0 4 (MQ below (QI D (t3 cI cZ cJ) w0 (wM cI cZ ad S rest) s.heap.size r) args s 0 0 (va_A w0 s.heap.size)) (wM cI cZ ad S rest) 0 0 0 [(0, .ref (ad 0)), (1, .int x1), (2, .int x2)] [] := by
  unfold X6_counted at h
  refine x_iload_n C 2 dX6_counted_0 rfl ?_
  refine x_istore_n C (lv' := [(0, .ref (ad 0)), (1, .int x1), (2, .int x2), (3, .int x2)]) dX6_counted_1 (by decide) rfl ?_
  refine x_locals (lv' := [(0, .ref (ad 0)), (1, .int x1), (3, .int x2)]) [0, 1, 3] rfl ?_
  exact X_X6_counted_L2 C h
set_option maxRecDepth 100000 in
theorem c_X6_counted {l : Launch} {D : va_G} {cI cZ cJ : ClassId} {ad : Nat → Nat} {S : St} {rest : va_W} {x1 x2 : Int32} {r : Int32} (h : X6_counted S x1 x2 = some r) : ∀ sz, Met l yX6_counted wsX6_counted rm_X6_counted (PC D (t3 cI cZ cJ) [.ref (ad 0), .int x1, .int x2] (wM cI cZ ad S rest) sz) (QI D (t3 cI cZ cJ) (wM cI cZ ad S rest) (wM cI cZ ad S rest) sz r) 0 0 (va_A (wM cI cZ ad S rest) sz) := by
  refine x_met (Qc := fun sz => QI D (t3 cI cZ cJ) (wM cI cZ ad S rest) (wM cI cZ ad S rest) sz r) RX6 rfl (by decide) rfl (Nat.le_of_ble_eq_true rfl) (fun p e s m args below meth c C => ?_)
  exact X_X6_counted C h
/-! EntryMastersModel.rank(I)I -/
abbrev rm_X6_rank : Room := { frames := 0, cells := 0, slots := 0, locals := 0 }
theorem hi_X6_rank_6 : ∀ z ∈ u_ws RX6 TX6 26, z ∈ wsX6_rank := by decide +kernel
theorem lk_X6_rank_68 : Cond.fieldLink RX6 68 RX6 "label" "[I" ∈ wsX6_rank := by decide +kernel
def X6_rank_b22 (S : St) (s0 : Int32) : Option (Int32) :=
  some s0
set_option maxHeartbeats 4000000 in
set_option maxRecDepth 100000 in
theorem X_X6_rank_b22 {p : Program} {l : Launch} {e : Env} {s : State} {m : MethodId} {args : Array Value} {below : List Frame} {meth : Method} {c : Code} {D : va_G} {cI cZ cJ : ClassId} {ad : Nat → Nat} {rest w0 : va_W} (C : XC p rm_X6_rank s m args meth c cX6_rank 2 (some .int) RX6 wsX6_rank D (t3 cI cZ cJ)) {S : St} {s0 : Int32} {r : Int32} (h : X6_rank_b22 S s0 = some r) : XW p l e rm_X6_rank s m args below meth c D w0 2 (MQ below (QI D (t3 cI cZ cJ) w0 (wM cI cZ ad S rest) s.heap.size r) args s 0 0 (va_A w0 s.heap.size)) (wM cI cZ ad S rest) 0 0 22 [] [.int s0] := by
  unfold X6_rank_b22 at h
  obtain rfl := Option.some.inj h
  exact x_iret C dX6_rank_22
def X6_rank (S : St) (x1 : Int32) : Option (Int32) :=
  if inB x1 42 then (if 0 ≤ (S 20 x1.toNatClampNeg) then (if inB x1 42 then (X6_rank_b22 S (S 20 x1.toNatClampNeg)) else none) else (X6_rank_b22 S (100 + x1))) else none
set_option maxHeartbeats 4000000 in
set_option maxRecDepth 100000 in
theorem X_X6_rank {p : Program} {l : Launch} {e : Env} {s : State} {m : MethodId} {args : Array Value} {below : List Frame} {meth : Method} {c : Code} {D : va_G} {cI cZ cJ : ClassId} {ad : Nat → Nat} {rest w0 : va_W} (C : XC p rm_X6_rank s m args meth c cX6_rank 2 (some .int) RX6 wsX6_rank D (t3 cI cZ cJ)) {S : St} {x1 : Int32} {r : Int32} (h : X6_rank S x1 = some r) : XW p l e rm_X6_rank s m args below meth c D w0 2 (MQ below (QI D (t3 cI cZ cJ) w0 (wM cI cZ ad S rest) s.heap.size r) args s 0 0 (va_A w0 s.heap.size)) (wM cI cZ ad S rest) 0 0 0 [(0, .ref (ad 0)), (1, .int x1)] [] := by
  unfold X6_rank at h
  refine x_aload_n C 0 dX6_rank_0 rfl ?_
  refine x_get C (R' := RX6) (T := TX6) (N := 26) (ci := 6) 0 21 rfl rfl (by decide) rfl rfl hi_X6_rank_6 lk_X6_rank_68 dX6_rank_1 ?_
  refine x_iload_n C 1 dX6_rank_4 rfl ?_
  obtain ⟨g5, h⟩ := gdB h
  refine x_iald C 20 rfl g5 dX6_rank_5 ?_
  refine x_if_ge C (t := 16) dX6_rank_6 (by decide) (fun c6 => ?_) (fun c6 => ?_)
  · replace h := (if_pos c6).symm.trans h
    refine x_aload_n C 0 dX6_rank_16 rfl ?_
    refine x_get C (R' := RX6) (T := TX6) (N := 26) (ci := 6) 0 21 rfl rfl (by decide) rfl rfl hi_X6_rank_6 lk_X6_rank_68 dX6_rank_17 ?_
    refine x_iload_n C 1 dX6_rank_20 rfl ?_
    obtain ⟨g21, h⟩ := gdB h
    refine x_iald C 20 rfl g21 dX6_rank_21 ?_
    refine x_locals (lv' := []) [] rfl ?_
    exact X_X6_rank_b22 C h
  · replace h := (if_neg c6).symm.trans h
    refine x_bipush C (v := 100) dX6_rank_9 (by decide) ?_
    refine x_iload_n C 1 dX6_rank_11 rfl ?_
    refine x_iadd C dX6_rank_12 ?_
    refine x_goto C (t := 22) dX6_rank_13 (by decide) ?_
    refine x_locals (lv' := []) [] rfl ?_
    exact X_X6_rank_b22 C h
set_option maxRecDepth 100000 in
theorem c_X6_rank {l : Launch} {D : va_G} {cI cZ cJ : ClassId} {ad : Nat → Nat} {S : St} {rest : va_W} {x1 : Int32} {r : Int32} (h : X6_rank S x1 = some r) : ∀ sz, Met l yX6_rank wsX6_rank rm_X6_rank (PC D (t3 cI cZ cJ) [.ref (ad 0), .int x1] (wM cI cZ ad S rest) sz) (QI D (t3 cI cZ cJ) (wM cI cZ ad S rest) (wM cI cZ ad S rest) sz r) 0 0 (va_A (wM cI cZ ad S rest) sz) := by
  refine x_met (Qc := fun sz => QI D (t3 cI cZ cJ) (wM cI cZ ad S rest) (wM cI cZ ad S rest) sz r) RX6 rfl (by decide) rfl (Nat.le_of_ble_eq_true rfl) (fun p e s m args below meth c C => ?_)
  exact X_X6_rank C h
/-! EntryMastersModel.behind(II)I -/
abbrev rm_X6_behind : Room := { frames := 1, cells := 0, slots := 0, locals := 21 }
theorem hi_X6_behind_6 : ∀ z ∈ u_ws RX6 TX6 26, z ∈ wsX6_behind := by decide +kernel
theorem lk_X6_behind_46 : Cond.fieldLink RX6 46 RX6 "referral" "[Z" ∈ wsX6_behind := by decide +kernel
theorem lk_X6_behind_62 : Cond.fieldLink RX6 62 RX6 "there" "[Z" ∈ wsX6_behind := by decide +kernel
theorem lk_X6_behind_65 : Cond.fieldLink RX6 65 RX6 "parent" "[I" ∈ wsX6_behind := by decide +kernel
theorem cw_X6_behind_X6_rank_167 {p : Program} {s : State} {m : MethodId} {args : Array Value} {meth : Method} {c : Code} {D : va_G} {tys : List (ClassId × FieldType)} {R : Room} (C : XC p R s m args meth c cX6_behind 6 (some .int) RX6 wsX6_behind D tys) : CallW rm_X6_behind s args RX6 RX6 167 yX6_rank cX6_rank 2 (some .int) wsX6_rank rm_X6_rank 0 0 1 := cwV 1 C.2.2.2.2.1 gX6_behind_X6_rank rfl rfl rfl (by decide +kernel) ⟨Nat.le_of_ble_eq_true rfl, Nat.le_of_ble_eq_true rfl⟩
def X6_behind_b96 (S : St) (x3 : Int32) : Option (Int32) :=
  some x3
set_option maxHeartbeats 4000000 in
set_option maxRecDepth 100000 in
theorem X_X6_behind_b96 {p : Program} {l : Launch} {e : Env} {s : State} {m : MethodId} {args : Array Value} {below : List Frame} {meth : Method} {c : Code} {D : va_G} {cI cZ cJ : ClassId} {ad : Nat → Nat} {rest w0 : va_W} (C : XC p rm_X6_behind s m args meth c cX6_behind 6 (some .int) RX6 wsX6_behind D (t3 cI cZ cJ)) {S : St} {x3 : Int32} {r : Int32} (h : X6_behind_b96 S x3 = some r) : XW p l e rm_X6_behind s m args below meth c D w0 6 (MQ below (QI D (t3 cI cZ cJ) w0 (wM cI cZ ad S rest) s.heap.size r) args s 0 0 (va_A w0 s.heap.size)) (wM cI cZ ad S rest) 0 0 96 [(3, .int x3)] [] := by
  unfold X6_behind_b96 at h
  refine x_iload_n C 0 dX6_behind_96 rfl ?_
  obtain rfl := Option.some.inj h
  exact x_iret C dX6_behind_97
def X6_behind_b89 (S : St) (x1 x2 x4 s0 : Int32) : Option ((Int32 × Int32 × Int32 × Int32) ⊕ (Int32)) :=
  some (.inl (x1, x2, s0, x4 + 1))
set_option maxHeartbeats 4000000 in
set_option maxRecDepth 100000 in
theorem X_X6_behind_b89 {p : Program} {l : Launch} {e : Env} {s : State} {m : MethodId} {args : Array Value} {below : List Frame} {meth : Method} {c : Code} {D : va_G} {cI cZ cJ : ClassId} {ad : Nat → Nat} {rest w0 : va_W} (C : XC p rm_X6_behind s m args meth c cX6_behind 6 (some .int) RX6 wsX6_behind D (t3 cI cZ cJ)) {S : St} {x1 x2 x4 s0 : Int32} {z : (Int32 × Int32 × Int32 × Int32) ⊕ (Int32)} {r : Int32} (h : X6_behind_b89 S x1 x2 x4 s0 = some z) (hk : ∀ a' : (Int32 × Int32 × Int32 × Int32), z = .inl a' → XW p l e rm_X6_behind s m args below meth c D w0 6 (MQ below (QI D (t3 cI cZ cJ) w0 (wM cI cZ ad S rest) s.heap.size r) args s 0 0 (va_A w0 s.heap.size)) (wM cI cZ ad S rest) 0 0 5 [(0, .ref (ad 0)), (1, .int a'.1), (2, .int a'.2.1), (3, .int a'.2.2.1), (4, .int a'.2.2.2)] []) (hr : ∀ r', z = .inr r' → r' = r) : XW p l e rm_X6_behind s m args below meth c D w0 6 (MQ below (QI D (t3 cI cZ cJ) w0 (wM cI cZ ad S rest) s.heap.size r) args s 0 0 (va_A w0 s.heap.size)) (wM cI cZ ad S rest) 0 0 89 [(0, .ref (ad 0)), (1, .int x1), (2, .int x2), (4, .int x4)] [.int s0] := by
  unfold X6_behind_b89 at h
  refine x_istore_n C (lv' := [(0, .ref (ad 0)), (1, .int x1), (2, .int x2), (3, .int s0), (4, .int x4)]) dX6_behind_89 (by decide) rfl ?_
  refine x_iinc C (v := x4 + 1) (lv' := [(0, .ref (ad 0)), (1, .int x1), (2, .int x2), (3, .int s0), (4, .int (x4 + 1))]) 4 dX6_behind_90 rfl rfl (by decide) rfl ?_
  refine x_goto C (t := 5) dX6_behind_93 (by decide) ?_
  exact hk _ (Option.some.inj h).symm
def X6_behind_b88 (S : St) (x1 x2 x3 x4 : Int32) : Option ((Int32 × Int32 × Int32 × Int32) ⊕ (Int32)) :=
  X6_behind_b89 S x1 x2 x4 x3
set_option maxHeartbeats 4000000 in
set_option maxRecDepth 100000 in
theorem X_X6_behind_b88 {p : Program} {l : Launch} {e : Env} {s : State} {m : MethodId} {args : Array Value} {below : List Frame} {meth : Method} {c : Code} {D : va_G} {cI cZ cJ : ClassId} {ad : Nat → Nat} {rest w0 : va_W} (C : XC p rm_X6_behind s m args meth c cX6_behind 6 (some .int) RX6 wsX6_behind D (t3 cI cZ cJ)) {S : St} {x1 x2 x3 x4 : Int32} {z : (Int32 × Int32 × Int32 × Int32) ⊕ (Int32)} {r : Int32} (h : X6_behind_b88 S x1 x2 x3 x4 = some z) (hk : ∀ a' : (Int32 × Int32 × Int32 × Int32), z = .inl a' → XW p l e rm_X6_behind s m args below meth c D w0 6 (MQ below (QI D (t3 cI cZ cJ) w0 (wM cI cZ ad S rest) s.heap.size r) args s 0 0 (va_A w0 s.heap.size)) (wM cI cZ ad S rest) 0 0 5 [(0, .ref (ad 0)), (1, .int a'.1), (2, .int a'.2.1), (3, .int a'.2.2.1), (4, .int a'.2.2.2)] []) (hr : ∀ r', z = .inr r' → r' = r) : XW p l e rm_X6_behind s m args below meth c D w0 6 (MQ below (QI D (t3 cI cZ cJ) w0 (wM cI cZ ad S rest) s.heap.size r) args s 0 0 (va_A w0 s.heap.size)) (wM cI cZ ad S rest) 0 0 88 [(0, .ref (ad 0)), (1, .int x1), (2, .int x2), (3, .int x3), (4, .int x4)] [] := by
  unfold X6_behind_b88 at h
  refine x_iload_n C 3 dX6_behind_88 rfl ?_
  refine x_locals (lv' := [(0, .ref (ad 0)), (1, .int x1), (2, .int x2), (4, .int x4)]) [0, 1, 2, 4] rfl ?_
  exact X_X6_behind_b89 C h hk hr
def X6_behind_b83 (S : St) (x1 x2 x4 : Int32) : Option ((Int32 × Int32 × Int32 × Int32) ⊕ (Int32)) :=
  X6_behind_b89 S x1 x2 x4 x4
set_option maxHeartbeats 4000000 in
set_option maxRecDepth 100000 in
theorem X_X6_behind_b83 {p : Program} {l : Launch} {e : Env} {s : State} {m : MethodId} {args : Array Value} {below : List Frame} {meth : Method} {c : Code} {D : va_G} {cI cZ cJ : ClassId} {ad : Nat → Nat} {rest w0 : va_W} (C : XC p rm_X6_behind s m args meth c cX6_behind 6 (some .int) RX6 wsX6_behind D (t3 cI cZ cJ)) {S : St} {x1 x2 x4 : Int32} {z : (Int32 × Int32 × Int32 × Int32) ⊕ (Int32)} {r : Int32} (h : X6_behind_b83 S x1 x2 x4 = some z) (hk : ∀ a' : (Int32 × Int32 × Int32 × Int32), z = .inl a' → XW p l e rm_X6_behind s m args below meth c D w0 6 (MQ below (QI D (t3 cI cZ cJ) w0 (wM cI cZ ad S rest) s.heap.size r) args s 0 0 (va_A w0 s.heap.size)) (wM cI cZ ad S rest) 0 0 5 [(0, .ref (ad 0)), (1, .int a'.1), (2, .int a'.2.1), (3, .int a'.2.2.1), (4, .int a'.2.2.2)] []) (hr : ∀ r', z = .inr r' → r' = r) : XW p l e rm_X6_behind s m args below meth c D w0 6 (MQ below (QI D (t3 cI cZ cJ) w0 (wM cI cZ ad S rest) s.heap.size r) args s 0 0 (va_A w0 s.heap.size)) (wM cI cZ ad S rest) 0 0 83 [(0, .ref (ad 0)), (1, .int x1), (2, .int x2), (4, .int x4)] [] := by
  unfold X6_behind_b83 at h
  refine x_iload C 3 dX6_behind_83 rfl ?_
  refine x_goto C (t := 89) dX6_behind_85 (by decide) ?_
  exact X_X6_behind_b89 C h hk hr
def X6_behind_b58 (S : St) (x1 x2 x3 x4 s0 : Int32) : Option ((Int32 × Int32 × Int32 × Int32) ⊕ (Int32)) :=
  if s0 = 0 then (X6_behind_b88 S x1 x2 x3 x4) else (if x3 < 0 then (X6_behind_b83 S x1 x2 x4) else ((X6_rank S x4).bind fun v72 => (X6_rank S x3).bind fun v77 => if v77 ≤ v72 then (X6_behind_b88 S x1 x2 x3 x4) else (X6_behind_b83 S x1 x2 x4)))
set_option maxHeartbeats 4000000 in
set_option maxRecDepth 100000 in
theorem X_X6_behind_b58 {p : Program} {l : Launch} {e : Env} {s : State} {m : MethodId} {args : Array Value} {below : List Frame} {meth : Method} {c : Code} {D : va_G} {cI cZ cJ : ClassId} {ad : Nat → Nat} {rest w0 : va_W} (C : XC p rm_X6_behind s m args meth c cX6_behind 6 (some .int) RX6 wsX6_behind D (t3 cI cZ cJ)) {S : St} {x1 x2 x3 x4 s0 : Int32} {z : (Int32 × Int32 × Int32 × Int32) ⊕ (Int32)} {r : Int32} (h : X6_behind_b58 S x1 x2 x3 x4 s0 = some z) (hk : ∀ a' : (Int32 × Int32 × Int32 × Int32), z = .inl a' → XW p l e rm_X6_behind s m args below meth c D w0 6 (MQ below (QI D (t3 cI cZ cJ) w0 (wM cI cZ ad S rest) s.heap.size r) args s 0 0 (va_A w0 s.heap.size)) (wM cI cZ ad S rest) 0 0 5 [(0, .ref (ad 0)), (1, .int a'.1), (2, .int a'.2.1), (3, .int a'.2.2.1), (4, .int a'.2.2.2)] []) (hr : ∀ r', z = .inr r' → r' = r) : XW p l e rm_X6_behind s m args below meth c D w0 6 (MQ below (QI D (t3 cI cZ cJ) w0 (wM cI cZ ad S rest) s.heap.size r) args s 0 0 (va_A w0 s.heap.size)) (wM cI cZ ad S rest) 0 0 58 [(0, .ref (ad 0)), (1, .int x1), (2, .int x2), (3, .int x3), (4, .int x4)] [.int s0] := by
  unfold X6_behind_b58 at h
  refine x_istore C (lv' := [(0, .ref (ad 0)), (1, .int x1), (2, .int x2), (3, .int x3), (4, .int x4), (5, .int s0)]) dX6_behind_58 (by decide) rfl ?_
  refine x_iload C 5 dX6_behind_60 rfl ?_
  refine x_if_eq C (t := 88) dX6_behind_62 (by decide) (fun c62 => ?_) (fun c62 => ?_)
  · replace h := (if_pos c62).symm.trans h
    refine x_locals (lv' := [(0, .ref (ad 0)), (1, .int x1), (2, .int x2), (3, .int x3), (4, .int x4)]) [0, 1, 2, 3, 4] rfl ?_
    exact X_X6_behind_b88 C h hk hr
  · replace h := (if_neg c62).symm.trans h
    refine x_iload_n C 3 dX6_behind_65 rfl ?_
    refine x_if_lt C (t := 83) dX6_behind_66 (by decide) (fun c66 => ?_) (fun c66 => ?_)
    · replace h := (if_pos c66).symm.trans h
      refine x_locals (lv' := [(0, .ref (ad 0)), (1, .int x1), (2, .int x2), (4, .int x4)]) [0, 1, 2, 4] rfl ?_
      exact X_X6_behind_b83 C h hk hr
    · replace h := (if_neg c66).symm.trans h
      refine x_aload_n C 0 dX6_behind_69 rfl ?_
      refine x_iload C 4 dX6_behind_70 rfl ?_
      obtain ⟨v72, hg72, h⟩ := ob h
      refine x_ci0 (x_runV C (As := [.int x4]) (rest := []) (c_X6_rank hg72) (cw_X6_behind_X6_rank_167 C) 0 rfl rfl rfl (Nat.le_of_ble_eq_true rfl) dX6_behind_72 ⟨Nat.zero_le _, Nat.zero_le _⟩) ?_
      refine x_aload_n C 0 dX6_behind_75 rfl ?_
      refine x_iload_n C 3 dX6_behind_76 rfl ?_
      obtain ⟨v77, hg77, h⟩ := ob h
      refine x_ci0 (x_runV C (As := [.int x3]) (rest := [.int v72]) (c_X6_rank hg77) (cw_X6_behind_X6_rank_167 C) 0 rfl rfl rfl (Nat.le_of_ble_eq_true rfl) dX6_behind_77 ⟨Nat.zero_le _, Nat.zero_le _⟩) ?_
      refine x_icmp_ge C (t := 88) dX6_behind_80 (by decide) (fun c80 => ?_) (fun c80 => ?_)
      · replace h := (if_pos c80).symm.trans h
        refine x_locals (lv' := [(0, .ref (ad 0)), (1, .int x1), (2, .int x2), (3, .int x3), (4, .int x4)]) [0, 1, 2, 3, 4] rfl ?_
        exact X_X6_behind_b88 C h hk hr
      · replace h := (if_neg c80).symm.trans h
        refine x_locals (lv' := [(0, .ref (ad 0)), (1, .int x1), (2, .int x2), (4, .int x4)]) [0, 1, 2, 4] rfl ?_
        exact X_X6_behind_b83 C h hk hr
def X6_behind_b57 (S : St) (x1 x2 x3 x4 : Int32) : Option ((Int32 × Int32 × Int32 × Int32) ⊕ (Int32)) :=
  X6_behind_b58 S x1 x2 x3 x4 0
set_option maxHeartbeats 4000000 in
set_option maxRecDepth 100000 in
theorem X_X6_behind_b57 {p : Program} {l : Launch} {e : Env} {s : State} {m : MethodId} {args : Array Value} {below : List Frame} {meth : Method} {c : Code} {D : va_G} {cI cZ cJ : ClassId} {ad : Nat → Nat} {rest w0 : va_W} (C : XC p rm_X6_behind s m args meth c cX6_behind 6 (some .int) RX6 wsX6_behind D (t3 cI cZ cJ)) {S : St} {x1 x2 x3 x4 : Int32} {z : (Int32 × Int32 × Int32 × Int32) ⊕ (Int32)} {r : Int32} (h : X6_behind_b57 S x1 x2 x3 x4 = some z) (hk : ∀ a' : (Int32 × Int32 × Int32 × Int32), z = .inl a' → XW p l e rm_X6_behind s m args below meth c D w0 6 (MQ below (QI D (t3 cI cZ cJ) w0 (wM cI cZ ad S rest) s.heap.size r) args s 0 0 (va_A w0 s.heap.size)) (wM cI cZ ad S rest) 0 0 5 [(0, .ref (ad 0)), (1, .int a'.1), (2, .int a'.2.1), (3, .int a'.2.2.1), (4, .int a'.2.2.2)] []) (hr : ∀ r', z = .inr r' → r' = r) : XW p l e rm_X6_behind s m args below meth c D w0 6 (MQ below (QI D (t3 cI cZ cJ) w0 (wM cI cZ ad S rest) s.heap.size r) args s 0 0 (va_A w0 s.heap.size)) (wM cI cZ ad S rest) 0 0 57 [(0, .ref (ad 0)), (1, .int x1), (2, .int x2), (3, .int x3), (4, .int x4)] [] := by
  unfold X6_behind_b57 at h
  refine x_iconst C (v := 0) dX6_behind_57 (by decide) ?_
  exact X_X6_behind_b58 C h hk hr
def X6_behind_H5 (S : St) (x1 x2 x3 x4 : Int32) : Option ((Int32 × Int32 × Int32 × Int32) ⊕ (Int32)) :=
  if 42 ≤ x4 then (exI (X6_behind_b96 S x3)) else (if inB x4 42 then (if (S 18 x4.toNatClampNeg) = 0 then (X6_behind_b57 S x1 x2 x3 x4) else (if inB x4 42 then (if (S 19 x4.toNatClampNeg) = x1 then (if inB x4 42 then (if (S 13 x4.toNatClampNeg) = 0 then ((X6_rank S x4).bind fun v46 => if v46 ≤ x2 then (X6_behind_b57 S x1 x2 x3 x4) else (X6_behind_b58 S x1 x2 x3 x4 1)) else (X6_behind_b57 S x1 x2 x3 x4)) else none) else (X6_behind_b57 S x1 x2 x3 x4)) else none)) else none)
set_option maxHeartbeats 4000000 in
set_option maxRecDepth 100000 in
theorem X_X6_behind_H5 {p : Program} {l : Launch} {e : Env} {s : State} {m : MethodId} {args : Array Value} {below : List Frame} {meth : Method} {c : Code} {D : va_G} {cI cZ cJ : ClassId} {ad : Nat → Nat} {rest w0 : va_W} (C : XC p rm_X6_behind s m args meth c cX6_behind 6 (some .int) RX6 wsX6_behind D (t3 cI cZ cJ)) {S : St} {x1 x2 x3 x4 : Int32} {z : (Int32 × Int32 × Int32 × Int32) ⊕ (Int32)} {r : Int32} (h : X6_behind_H5 S x1 x2 x3 x4 = some z) (hk : ∀ a' : (Int32 × Int32 × Int32 × Int32), z = .inl a' → XW p l e rm_X6_behind s m args below meth c D w0 6 (MQ below (QI D (t3 cI cZ cJ) w0 (wM cI cZ ad S rest) s.heap.size r) args s 0 0 (va_A w0 s.heap.size)) (wM cI cZ ad S rest) 0 0 5 [(0, .ref (ad 0)), (1, .int a'.1), (2, .int a'.2.1), (3, .int a'.2.2.1), (4, .int a'.2.2.2)] []) (hr : ∀ r', z = .inr r' → r' = r) : XW p l e rm_X6_behind s m args below meth c D w0 6 (MQ below (QI D (t3 cI cZ cJ) w0 (wM cI cZ ad S rest) s.heap.size r) args s 0 0 (va_A w0 s.heap.size)) (wM cI cZ ad S rest) 0 0 5 [(0, .ref (ad 0)), (1, .int x1), (2, .int x2), (3, .int x3), (4, .int x4)] [] := by
  unfold X6_behind_H5 at h
  refine x_iload C 4 dX6_behind_5 rfl ?_
  refine x_bipush C (v := 42) dX6_behind_7 (by decide) ?_
  refine x_icmp_ge C (t := 96) dX6_behind_9 (by decide) (fun c9 => ?_) (fun c9 => ?_)
  · replace h := (if_pos c9).symm.trans h
    refine x_locals (lv' := [(3, .int x3)]) [3] rfl ?_
    obtain ⟨r1, h1, h2⟩ := exI_some h
    obtain rfl := hr r1 h2
    exact X_X6_behind_b96 C h1
  · replace h := (if_neg c9).symm.trans h
    refine x_aload_n C 0 dX6_behind_12 rfl ?_
    refine x_get C (R' := RX6) (T := TX6) (N := 26) (ci := 6) 0 19 rfl rfl (by decide) rfl rfl hi_X6_behind_6 lk_X6_behind_62 dX6_behind_13 ?_
    refine x_iload C 4 dX6_behind_16 rfl ?_
    obtain ⟨g18, h⟩ := gdB h
    refine x_zald C 18 rfl g18 dX6_behind_18 ?_
    refine x_if_eq C (t := 57) dX6_behind_19 (by decide) (fun c19 => ?_) (fun c19 => ?_)
    · replace h := (if_pos c19).symm.trans h
      exact X_X6_behind_b57 C h hk hr
    · replace h := (if_neg c19).symm.trans h
      refine x_aload_n C 0 dX6_behind_22 rfl ?_
      refine x_get C (R' := RX6) (T := TX6) (N := 26) (ci := 6) 0 20 rfl rfl (by decide) rfl rfl hi_X6_behind_6 lk_X6_behind_65 dX6_behind_23 ?_
      refine x_iload C 4 dX6_behind_26 rfl ?_
      obtain ⟨g28, h⟩ := gdB h
      refine x_iald C 19 rfl g28 dX6_behind_28 ?_
      refine x_iload_n C 1 dX6_behind_29 rfl ?_
      refine x_icmp_ne C (t := 57) dX6_behind_30 (by decide) (fun c30 => ?_) (fun c30 => ?_)
      · replace h := (if_neg c30).symm.trans h
        exact X_X6_behind_b57 C h hk hr
      · replace h := (if_pos c30).symm.trans h
        refine x_aload_n C 0 dX6_behind_33 rfl ?_
        refine x_get C (R' := RX6) (T := TX6) (N := 26) (ci := 6) 0 13 rfl rfl (by decide) rfl rfl hi_X6_behind_6 lk_X6_behind_46 dX6_behind_34 ?_
        refine x_iload C 4 dX6_behind_37 rfl ?_
        obtain ⟨g39, h⟩ := gdB h
        refine x_zald C 13 rfl g39 dX6_behind_39 ?_
        refine x_if_ne C (t := 57) dX6_behind_40 (by decide) (fun c40 => ?_) (fun c40 => ?_)
        · replace h := (if_neg c40).symm.trans h
          exact X_X6_behind_b57 C h hk hr
        · replace h := (if_pos c40).symm.trans h
          refine x_aload_n C 0 dX6_behind_43 rfl ?_
          refine x_iload C 4 dX6_behind_44 rfl ?_
          obtain ⟨v46, hg46, h⟩ := ob h
          refine x_ci0 (x_runV C (As := [.int x4]) (rest := []) (c_X6_rank hg46) (cw_X6_behind_X6_rank_167 C) 0 rfl rfl rfl (Nat.le_of_ble_eq_true rfl) dX6_behind_46 ⟨Nat.zero_le _, Nat.zero_le _⟩) ?_
          refine x_iload_n C 2 dX6_behind_49 rfl ?_
          refine x_icmp_le C (t := 57) dX6_behind_50 (by decide) (fun c50 => ?_) (fun c50 => ?_)
          · replace h := (if_pos c50).symm.trans h
            exact X_X6_behind_b57 C h hk hr
          · replace h := (if_neg c50).symm.trans h
            refine x_iconst C (v := 1) dX6_behind_53 (by decide) ?_
            refine x_goto C (t := 58) dX6_behind_54 (by decide) ?_
            exact X_X6_behind_b58 C h hk hr
def X6_behind_L5 (S : St) (x1 x2 x3 x4 : Int32) : Option (Int32) := wloop (fun a' : (Int32 × Int32 × Int32 × Int32) => X6_behind_H5 S a'.1 a'.2.1 a'.2.2.1 a'.2.2.2) 1000 (x1, x2, x3, x4)
set_option maxHeartbeats 4000000 in
set_option maxRecDepth 100000 in
theorem X_X6_behind_L5 {p : Program} {l : Launch} {e : Env} {s : State} {m : MethodId} {args : Array Value} {below : List Frame} {meth : Method} {c : Code} {D : va_G} {cI cZ cJ : ClassId} {ad : Nat → Nat} {rest w0 : va_W} (C : XC p rm_X6_behind s m args meth c cX6_behind 6 (some .int) RX6 wsX6_behind D (t3 cI cZ cJ)) {S : St} {x1 x2 x3 x4 : Int32} {r : Int32} (h : X6_behind_L5 S x1 x2 x3 x4 = some r) : XW p l e rm_X6_behind s m args below meth c D w0 6 (MQ below (QI D (t3 cI cZ cJ) w0 (wM cI cZ ad S rest) s.heap.size r) args s 0 0 (va_A w0 s.heap.size)) (wM cI cZ ad S rest) 0 0 5 [(0, .ref (ad 0)), (1, .int x1), (2, .int x2), (3, .int x3), (4, .int x4)] [] :=
  wloop_met (P := (fun a' : (Int32 × Int32 × Int32 × Int32) => XW p l e rm_X6_behind s m args below meth c D w0 6 (MQ below (QI D (t3 cI cZ cJ) w0 (wM cI cZ ad S rest) s.heap.size r) args s 0 0 (va_A w0 s.heap.size)) (wM cI cZ ad S rest) 0 0 5 [(0, .ref (ad 0)), (1, .int a'.1), (2, .int a'.2.1), (3, .int a'.2.2.1), (4, .int a'.2.2.2)] [])) (fun _ _ hz hk hr => X_X6_behind_H5 C hz hk hr) 1000 (x1, x2, x3, x4) h
def X6_behind (S : St) (x1 x2 : Int32) : Option (Int32) :=
  X6_behind_L5 S x1 x2 (-1) 0
set_option maxHeartbeats 4000000 in
set_option maxRecDepth 100000 in
theorem X_X6_behind {p : Program} {l : Launch} {e : Env} {s : State} {m : MethodId} {args : Array Value} {below : List Frame} {meth : Method} {c : Code} {D : va_G} {cI cZ cJ : ClassId} {ad : Nat → Nat} {rest w0 : va_W} (C : XC p rm_X6_behind s m args meth c cX6_behind 6 (some .int) RX6 wsX6_behind D (t3 cI cZ cJ)) {S : St} {x1 x2 : Int32} {r : Int32} (h : X6_behind S x1 x2 = some r) : XW p l e rm_X6_behind s m args below meth c D w0 6 (MQ below (QI D (t3 cI cZ cJ) w0 (wM cI cZ ad S rest) s.heap.size r) args s 0 0 (va_A w0 s.heap.size)) (wM cI cZ ad S rest) 0 0 0 [(0, .ref (ad 0)), (1, .int x1), (2, .int x2)] [] := by
  unfold X6_behind at h
  refine x_iconst C (v := (-1)) dX6_behind_0 (by decide) ?_
  refine x_istore_n C (lv' := [(0, .ref (ad 0)), (1, .int x1), (2, .int x2), (3, .int (-1))]) dX6_behind_1 (by decide) rfl ?_
  refine x_iconst C (v := 0) dX6_behind_2 (by decide) ?_
  refine x_istore C (lv' := [(0, .ref (ad 0)), (1, .int x1), (2, .int x2), (3, .int (-1)), (4, .int 0)]) dX6_behind_3 (by decide) rfl ?_
  exact X_X6_behind_L5 C h
set_option maxRecDepth 100000 in
theorem c_X6_behind {l : Launch} {D : va_G} {cI cZ cJ : ClassId} {ad : Nat → Nat} {S : St} {rest : va_W} {x1 x2 : Int32} {r : Int32} (h : X6_behind S x1 x2 = some r) : ∀ sz, Met l yX6_behind wsX6_behind rm_X6_behind (PC D (t3 cI cZ cJ) [.ref (ad 0), .int x1, .int x2] (wM cI cZ ad S rest) sz) (QI D (t3 cI cZ cJ) (wM cI cZ ad S rest) (wM cI cZ ad S rest) sz r) 0 0 (va_A (wM cI cZ ad S rest) sz) := by
  refine x_met (Qc := fun sz => QI D (t3 cI cZ cJ) (wM cI cZ ad S rest) (wM cI cZ ad S rest) sz r) RX6 rfl (by decide) rfl (Nat.le_of_ble_eq_true rfl) (fun p e s m args below meth c C => ?_)
  exact X_X6_behind C h
/-! EntryMastersModel.goes(III)I -/
abbrev rm_X6_goes : Room := { frames := 2, cells := 0, slots := 0, locals := 46 }
theorem hi_X6_goes_6 : ∀ z ∈ u_ws RX6 TX6 26, z ∈ wsX6_goes := by decide +kernel
theorem lk_X6_goes_65 : Cond.fieldLink RX6 65 RX6 "parent" "[I" ∈ wsX6_goes := by decide +kernel
theorem cw_X6_goes_X6_behind_170 {p : Program} {s : State} {m : MethodId} {args : Array Value} {meth : Method} {c : Code} {D : va_G} {tys : List (ClassId × FieldType)} {R : Room} (C : XC p R s m args meth c cX6_goes 6 (some .int) RX6 wsX6_goes D tys) : CallW rm_X6_goes s args RX6 RX6 170 yX6_behind cX6_behind 6 (some .int) wsX6_behind rm_X6_behind 0 0 2 := cwV 2 C.2.2.2.2.1 gX6_goes_X6_behind rfl rfl rfl (by decide +kernel) ⟨Nat.le_of_ble_eq_true rfl, Nat.le_of_ble_eq_true rfl⟩
theorem cw_X6_goes_X6_rank_167 {p : Program} {s : State} {m : MethodId} {args : Array Value} {meth : Method} {c : Code} {D : va_G} {tys : List (ClassId × FieldType)} {R : Room} (C : XC p R s m args meth c cX6_goes 6 (some .int) RX6 wsX6_goes D tys) : CallW rm_X6_goes s args RX6 RX6 167 yX6_rank cX6_rank 2 (some .int) wsX6_rank rm_X6_rank 0 0 1 := cwV 1 C.2.2.2.2.1 gX6_goes_X6_rank rfl rfl rfl (by decide +kernel) ⟨Nat.le_of_ble_eq_true rfl, Nat.le_of_ble_eq_true rfl⟩
def X6_goes_b72 (S : St) (x4 : Int32) : Option (Int32) :=
  some x4
set_option maxHeartbeats 4000000 in
set_option maxRecDepth 100000 in
theorem X_X6_goes_b72 {p : Program} {l : Launch} {e : Env} {s : State} {m : MethodId} {args : Array Value} {below : List Frame} {meth : Method} {c : Code} {D : va_G} {cI cZ cJ : ClassId} {ad : Nat → Nat} {rest w0 : va_W} (C : XC p rm_X6_goes s m args meth c cX6_goes 6 (some .int) RX6 wsX6_goes D (t3 cI cZ cJ)) {S : St} {x4 : Int32} {r : Int32} (h : X6_goes_b72 S x4 = some r) : XW p l e rm_X6_goes s m args below meth c D w0 6 (MQ below (QI D (t3 cI cZ cJ) w0 (wM cI cZ ad S rest) s.heap.size r) args s 0 0 (va_A w0 s.heap.size)) (wM cI cZ ad S rest) 0 0 72 [(4, .int x4)] [] := by
  unfold X6_goes_b72 at h
  refine x_iload C 0 dX6_goes_72 rfl ?_
  obtain rfl := Option.some.inj h
  exact x_iret C dX6_goes_74
def X6_goes_H30 (S : St) (x2 x4 x5 : Int32) : Option ((Int32 × Int32 × Int32) ⊕ (Int32)) :=
  if 0 ≤ x4 then (exI (X6_goes_b72 S x4)) else (if x5 = x2 then (exI (X6_goes_b72 S x4)) else (if inB x5 42 then ((X6_rank S x5).bind fun v52 => (X6_behind S (S 19 x5.toNatClampNeg) v52).bind fun v55 => if inB x5 42 then (some (.inl (x2, v55, S 19 x5.toNatClampNeg))) else none) else none))
set_option maxHeartbeats 4000000 in
set_option maxRecDepth 100000 in
theorem X_X6_goes_H30 {p : Program} {l : Launch} {e : Env} {s : State} {m : MethodId} {args : Array Value} {below : List Frame} {meth : Method} {c : Code} {D : va_G} {cI cZ cJ : ClassId} {ad : Nat → Nat} {rest w0 : va_W} (C : XC p rm_X6_goes s m args meth c cX6_goes 6 (some .int) RX6 wsX6_goes D (t3 cI cZ cJ)) {S : St} {x2 x4 x5 : Int32} {z : (Int32 × Int32 × Int32) ⊕ (Int32)} {r : Int32} (h : X6_goes_H30 S x2 x4 x5 = some z) (hk : ∀ a' : (Int32 × Int32 × Int32), z = .inl a' → XW p l e rm_X6_goes s m args below meth c D w0 6 (MQ below (QI D (t3 cI cZ cJ) w0 (wM cI cZ ad S rest) s.heap.size r) args s 0 0 (va_A w0 s.heap.size)) (wM cI cZ ad S rest) 0 0 30 [(0, .ref (ad 0)), (2, .int a'.1), (4, .int a'.2.1), (5, .int a'.2.2)] []) (hr : ∀ r', z = .inr r' → r' = r) : XW p l e rm_X6_goes s m args below meth c D w0 6 (MQ below (QI D (t3 cI cZ cJ) w0 (wM cI cZ ad S rest) s.heap.size r) args s 0 0 (va_A w0 s.heap.size)) (wM cI cZ ad S rest) 0 0 30 [(0, .ref (ad 0)), (2, .int x2), (4, .int x4), (5, .int x5)] [] := by
  unfold X6_goes_H30 at h
  refine x_iload C 2 dX6_goes_30 rfl ?_
  refine x_if_ge C (t := 72) dX6_goes_32 (by decide) (fun c32 => ?_) (fun c32 => ?_)
  · replace h := (if_pos c32).symm.trans h
    refine x_locals (lv' := [(4, .int x4)]) [2] rfl ?_
    obtain ⟨r1, h1, h2⟩ := exI_some h
    obtain rfl := hr r1 h2
    exact X_X6_goes_b72 C h1
  · replace h := (if_neg c32).symm.trans h
    refine x_iload C 3 dX6_goes_35 rfl ?_
    refine x_iload_n C 1 dX6_goes_37 rfl ?_
    refine x_icmp_eq C (t := 72) dX6_goes_38 (by decide) (fun c38 => ?_) (fun c38 => ?_)
    · replace h := (if_pos c38).symm.trans h
      refine x_locals (lv' := [(4, .int x4)]) [2] rfl ?_
      obtain ⟨r1, h1, h2⟩ := exI_some h
      obtain rfl := hr r1 h2
      exact X_X6_goes_b72 C h1
    · replace h := (if_neg c38).symm.trans h
      refine x_aload_n C 0 dX6_goes_41 rfl ?_
      refine x_aload_n C 0 dX6_goes_42 rfl ?_
      refine x_get C (R' := RX6) (T := TX6) (N := 26) (ci := 6) 0 20 rfl rfl (by decide) rfl rfl hi_X6_goes_6 lk_X6_goes_65 dX6_goes_43 ?_
      refine x_iload C 3 dX6_goes_46 rfl ?_
      obtain ⟨g48, h⟩ := gdB h
      refine x_iald C 19 rfl g48 dX6_goes_48 ?_
      refine x_aload_n C 0 dX6_goes_49 rfl ?_
      refine x_iload C 3 dX6_goes_50 rfl ?_
      obtain ⟨v52, hg52, h⟩ := ob h
      refine x_ci0 (x_runV C (As := [.int x5]) (rest := [.int (S 19 x5.toNatClampNeg), .ref (ad 0)]) (c_X6_rank hg52) (cw_X6_goes_X6_rank_167 C) 0 rfl rfl rfl (Nat.le_of_ble_eq_true rfl) dX6_goes_52 ⟨Nat.zero_le _, Nat.zero_le _⟩) ?_
      obtain ⟨v55, hg55, h⟩ := ob h
      refine x_ci0 (x_runV C (As := [.int (S 19 x5.toNatClampNeg), .int v52]) (rest := []) (c_X6_behind hg55) (cw_X6_goes_X6_behind_170 C) 0 rfl rfl rfl (Nat.le_of_ble_eq_true rfl) dX6_goes_55 ⟨Nat.zero_le _, Nat.zero_le _⟩) ?_
      refine x_istore C (lv' := [(0, .ref (ad 0)), (2, .int x2), (4, .int v55), (5, .int x5)]) dX6_goes_58 (by decide) rfl ?_
      refine x_aload_n C 0 dX6_goes_60 rfl ?_
      refine x_get C (R' := RX6) (T := TX6) (N := 26) (ci := 6) 0 20 rfl rfl (by decide) rfl rfl hi_X6_goes_6 lk_X6_goes_65 dX6_goes_61 ?_
      refine x_iload C 3 dX6_goes_64 rfl ?_
      obtain ⟨g66, h⟩ := gdB h
      refine x_iald C 19 rfl g66 dX6_goes_66 ?_
      refine x_istore C (lv' := [(0, .ref (ad 0)), (2, .int x2), (4, .int v55), (5, .int (S 19 x5.toNatClampNeg))]) dX6_goes_67 (by decide) rfl ?_
      refine x_goto C (t := 30) dX6_goes_69 (by decide) ?_
      exact hk _ (Option.some.inj h).symm
def X6_goes_L30 (S : St) (x2 x4 x5 : Int32) : Option (Int32) := wloop (fun a' : (Int32 × Int32 × Int32) => X6_goes_H30 S a'.1 a'.2.1 a'.2.2) 1000 (x2, x4, x5)
set_option maxHeartbeats 4000000 in
set_option maxRecDepth 100000 in
theorem X_X6_goes_L30 {p : Program} {l : Launch} {e : Env} {s : State} {m : MethodId} {args : Array Value} {below : List Frame} {meth : Method} {c : Code} {D : va_G} {cI cZ cJ : ClassId} {ad : Nat → Nat} {rest w0 : va_W} (C : XC p rm_X6_goes s m args meth c cX6_goes 6 (some .int) RX6 wsX6_goes D (t3 cI cZ cJ)) {S : St} {x2 x4 x5 : Int32} {r : Int32} (h : X6_goes_L30 S x2 x4 x5 = some r) : XW p l e rm_X6_goes s m args below meth c D w0 6 (MQ below (QI D (t3 cI cZ cJ) w0 (wM cI cZ ad S rest) s.heap.size r) args s 0 0 (va_A w0 s.heap.size)) (wM cI cZ ad S rest) 0 0 30 [(0, .ref (ad 0)), (2, .int x2), (4, .int x4), (5, .int x5)] [] :=
  wloop_met (P := (fun a' : (Int32 × Int32 × Int32) => XW p l e rm_X6_goes s m args below meth c D w0 6 (MQ below (QI D (t3 cI cZ cJ) w0 (wM cI cZ ad S rest) s.heap.size r) args s 0 0 (va_A w0 s.heap.size)) (wM cI cZ ad S rest) 0 0 30 [(0, .ref (ad 0)), (2, .int a'.1), (4, .int a'.2.1), (5, .int a'.2.2)] [])) (fun _ _ hz hk hr => X_X6_goes_H30 C hz hk hr) 1000 (x2, x4, x5) h
def X6_goes_b25 (S : St) (x1 x2 s0 : Int32) : Option (Int32) :=
  X6_goes_L30 S x2 s0 x1
set_option maxHeartbeats 4000000 in
set_option maxRecDepth 100000 in
theorem X_X6_goes_b25 {p : Program} {l : Launch} {e : Env} {s : State} {m : MethodId} {args : Array Value} {below : List Frame} {meth : Method} {c : Code} {D : va_G} {cI cZ cJ : ClassId} {ad : Nat → Nat} {rest w0 : va_W} (C : XC p rm_X6_goes s m args meth c cX6_goes 6 (some .int) RX6 wsX6_goes D (t3 cI cZ cJ)) {S : St} {x1 x2 s0 : Int32} {r : Int32} (h : X6_goes_b25 S x1 x2 s0 = some r) : XW p l e rm_X6_goes s m args below meth c D w0 6 (MQ below (QI D (t3 cI cZ cJ) w0 (wM cI cZ ad S rest) s.heap.size r) args s 0 0 (va_A w0 s.heap.size)) (wM cI cZ ad S rest) 0 0 25 [(0, .ref (ad 0)), (1, .int x1), (2, .int x2)] [.int s0] := by
  unfold X6_goes_b25 at h
  refine x_istore C (lv' := [(0, .ref (ad 0)), (1, .int x1), (2, .int x2), (4, .int s0)]) dX6_goes_25 (by decide) rfl ?_
  refine x_iload_n C 1 dX6_goes_27 rfl ?_
  refine x_istore C (lv' := [(0, .ref (ad 0)), (1, .int x1), (2, .int x2), (4, .int s0), (5, .int x1)]) dX6_goes_28 (by decide) rfl ?_
  refine x_locals (lv' := [(0, .ref (ad 0)), (2, .int x2), (4, .int s0), (5, .int x1)]) [0, 2, 3, 4] rfl ?_
  exact X_X6_goes_L30 C h
def X6_goes_b15 (S : St) (x1 x2 : Int32) : Option (Int32) :=
  (X6_behind S x1 (-1)).bind fun v18 => X6_goes_b25 S x1 x2 v18
set_option maxHeartbeats 4000000 in
set_option maxRecDepth 100000 in
theorem X_X6_goes_b15 {p : Program} {l : Launch} {e : Env} {s : State} {m : MethodId} {args : Array Value} {below : List Frame} {meth : Method} {c : Code} {D : va_G} {cI cZ cJ : ClassId} {ad : Nat → Nat} {rest w0 : va_W} (C : XC p rm_X6_goes s m args meth c cX6_goes 6 (some .int) RX6 wsX6_goes D (t3 cI cZ cJ)) {S : St} {x1 x2 : Int32} {r : Int32} (h : X6_goes_b15 S x1 x2 = some r) : XW p l e rm_X6_goes s m args below meth c D w0 6 (MQ below (QI D (t3 cI cZ cJ) w0 (wM cI cZ ad S rest) s.heap.size r) args s 0 0 (va_A w0 s.heap.size)) (wM cI cZ ad S rest) 0 0 15 [(0, .ref (ad 0)), (1, .int x1), (2, .int x2)] [] := by
  unfold X6_goes_b15 at h
  refine x_aload_n C 0 dX6_goes_15 rfl ?_
  refine x_iload_n C 1 dX6_goes_16 rfl ?_
  refine x_iconst C (v := (-1)) dX6_goes_17 (by decide) ?_
  obtain ⟨v18, hg18, h⟩ := ob h
  refine x_ci0 (x_runV C (As := [.int x1, .int (-1)]) (rest := []) (c_X6_behind hg18) (cw_X6_goes_X6_behind_170 C) 0 rfl rfl rfl (Nat.le_of_ble_eq_true rfl) dX6_goes_18 ⟨Nat.zero_le _, Nat.zero_le _⟩) ?_
  refine x_goto C (t := 25) dX6_goes_21 (by decide) ?_
  exact X_X6_goes_b25 C h
def X6_goes_b24 (S : St) (x1 x2 : Int32) : Option (Int32) :=
  X6_goes_b25 S x1 x2 (-1)
set_option maxHeartbeats 4000000 in
set_option maxRecDepth 100000 in
theorem X_X6_goes_b24 {p : Program} {l : Launch} {e : Env} {s : State} {m : MethodId} {args : Array Value} {below : List Frame} {meth : Method} {c : Code} {D : va_G} {cI cZ cJ : ClassId} {ad : Nat → Nat} {rest w0 : va_W} (C : XC p rm_X6_goes s m args meth c cX6_goes 6 (some .int) RX6 wsX6_goes D (t3 cI cZ cJ)) {S : St} {x1 x2 : Int32} {r : Int32} (h : X6_goes_b24 S x1 x2 = some r) : XW p l e rm_X6_goes s m args below meth c D w0 6 (MQ below (QI D (t3 cI cZ cJ) w0 (wM cI cZ ad S rest) s.heap.size r) args s 0 0 (va_A w0 s.heap.size)) (wM cI cZ ad S rest) 0 0 24 [(0, .ref (ad 0)), (1, .int x1), (2, .int x2)] [] := by
  unfold X6_goes_b24 at h
  refine x_iconst C (v := (-1)) dX6_goes_24 (by decide) ?_
  exact X_X6_goes_b25 C h
def X6_goes (S : St) (x1 x2 x3 : Int32) : Option (Int32) :=
  if x3 = 2 then (X6_goes_b15 S x1 x2) else (if x1 = x2 then (if x3 = 1 then (X6_goes_b15 S x1 x2) else (X6_goes_b24 S x1 x2)) else (X6_goes_b24 S x1 x2))
set_option maxHeartbeats 4000000 in
set_option maxRecDepth 100000 in
theorem X_X6_goes {p : Program} {l : Launch} {e : Env} {s : State} {m : MethodId} {args : Array Value} {below : List Frame} {meth : Method} {c : Code} {D : va_G} {cI cZ cJ : ClassId} {ad : Nat → Nat} {rest w0 : va_W} (C : XC p rm_X6_goes s m args meth c cX6_goes 6 (some .int) RX6 wsX6_goes D (t3 cI cZ cJ)) {S : St} {x1 x2 x3 : Int32} {r : Int32} (h : X6_goes S x1 x2 x3 = some r) : XW p l e rm_X6_goes s m args below meth c D w0 6 (MQ below (QI D (t3 cI cZ cJ) w0 (wM cI cZ ad S rest) s.heap.size r) args s 0 0 (va_A w0 s.heap.size)) (wM cI cZ ad S rest) 0 0 0 [(0, .ref (ad 0)), (1, .int x1), (2, .int x2), (3, .int x3)] [] := by
  unfold X6_goes at h
  refine x_iload_n C 3 dX6_goes_0 rfl ?_
  refine x_iconst C (v := 2) dX6_goes_1 (by decide) ?_
  refine x_icmp_eq C (t := 15) dX6_goes_2 (by decide) (fun c2 => ?_) (fun c2 => ?_)
  · replace h := (if_pos c2).symm.trans h
    refine x_locals (lv' := [(0, .ref (ad 0)), (1, .int x1), (2, .int x2)]) [0, 1, 2] rfl ?_
    exact X_X6_goes_b15 C h
  · replace h := (if_neg c2).symm.trans h
    refine x_iload_n C 1 dX6_goes_5 rfl ?_
    refine x_iload_n C 2 dX6_goes_6 rfl ?_
    refine x_icmp_ne C (t := 24) dX6_goes_7 (by decide) (fun c7 => ?_) (fun c7 => ?_)
    · replace h := (if_neg c7).symm.trans h
      refine x_locals (lv' := [(0, .ref (ad 0)), (1, .int x1), (2, .int x2)]) [0, 1, 2] rfl ?_
      exact X_X6_goes_b24 C h
    · replace h := (if_pos c7).symm.trans h
      refine x_iload_n C 3 dX6_goes_10 rfl ?_
      refine x_iconst C (v := 1) dX6_goes_11 (by decide) ?_
      refine x_icmp_ne C (t := 24) dX6_goes_12 (by decide) (fun c12 => ?_) (fun c12 => ?_)
      · replace h := (if_neg c12).symm.trans h
        refine x_locals (lv' := [(0, .ref (ad 0)), (1, .int x1), (2, .int x2)]) [0, 1, 2] rfl ?_
        exact X_X6_goes_b24 C h
      · replace h := (if_pos c12).symm.trans h
        refine x_locals (lv' := [(0, .ref (ad 0)), (1, .int x1), (2, .int x2)]) [0, 1, 2] rfl ?_
        exact X_X6_goes_b15 C h
set_option maxRecDepth 100000 in
theorem c_X6_goes {l : Launch} {D : va_G} {cI cZ cJ : ClassId} {ad : Nat → Nat} {S : St} {rest : va_W} {x1 x2 x3 : Int32} {r : Int32} (h : X6_goes S x1 x2 x3 = some r) : ∀ sz, Met l yX6_goes wsX6_goes rm_X6_goes (PC D (t3 cI cZ cJ) [.ref (ad 0), .int x1, .int x2, .int x3] (wM cI cZ ad S rest) sz) (QI D (t3 cI cZ cJ) (wM cI cZ ad S rest) (wM cI cZ ad S rest) sz r) 0 0 (va_A (wM cI cZ ad S rest) sz) := by
  refine x_met (Qc := fun sz => QI D (t3 cI cZ cJ) (wM cI cZ ad S rest) (wM cI cZ ad S rest) sz r) RX6 rfl (by decide) rfl (Nat.le_of_ble_eq_true rfl) (fun p e s m args below meth c C => ?_)
  exact X_X6_goes C h
/-! EntryMastersModel.search(IIIIII)I -/
abbrev rm_X6_search : Room := { frames := 6, cells := 0, slots := 0, locals := 136 }
theorem hi_X6_search_6 : ∀ z ∈ u_ws RX6 TX6 26, z ∈ wsX6_search := by decide +kernel
theorem lk_X6_search_80 : Cond.fieldLink RX6 80 RX6 "thrown" "I" ∈ wsX6_search := by decide +kernel
theorem cw_X6_search_X6_counted_176 {p : Program} {s : State} {m : MethodId} {args : Array Value} {meth : Method} {c : Code} {D : va_G} {tys : List (ClassId × FieldType)} {R : Room} (C : XC p R s m args meth c cX6_search 11 (some .int) RX6 wsX6_search D tys) : CallW rm_X6_search s args RX6 RX6 176 yX6_counted cX6_counted 4 (some .int) wsX6_counted rm_X6_counted 0 0 2 := cwV 2 C.2.2.2.2.1 gX6_search_X6_counted rfl rfl rfl (by decide +kernel) ⟨Nat.le_of_ble_eq_true rfl, Nat.le_of_ble_eq_true rfl⟩
theorem cw_X6_search_X6_filtered_164 {p : Program} {s : State} {m : MethodId} {args : Array Value} {meth : Method} {c : Code} {D : va_G} {tys : List (ClassId × FieldType)} {R : Room} (C : XC p R s m args meth c cX6_search 11 (some .int) RX6 wsX6_search D tys) : CallW rm_X6_search s args RX6 RX6 164 yX6_filtered cX6_filtered 6 (some .int) wsX6_filtered rm_X6_filtered 0 0 2 := cwV 2 C.2.2.2.2.1 gX6_search_X6_filtered rfl rfl rfl (by decide +kernel) ⟨Nat.le_of_ble_eq_true rfl, Nat.le_of_ble_eq_true rfl⟩
theorem cw_X6_search_X6_goes_173 {p : Program} {s : State} {m : MethodId} {args : Array Value} {meth : Method} {c : Code} {D : va_G} {tys : List (ClassId × FieldType)} {R : Room} (C : XC p R s m args meth c cX6_search 11 (some .int) RX6 wsX6_search D tys) : CallW rm_X6_search s args RX6 RX6 173 yX6_goes cX6_goes 6 (some .int) wsX6_goes rm_X6_goes 0 0 3 := cwV 3 C.2.2.2.2.1 gX6_search_X6_goes rfl rfl rfl (by decide +kernel) ⟨Nat.le_of_ble_eq_true rfl, Nat.le_of_ble_eq_true rfl⟩
theorem cw_X6_search_X6_isFilter_152 {p : Program} {s : State} {m : MethodId} {args : Array Value} {meth : Method} {c : Code} {D : va_G} {tys : List (ClassId × FieldType)} {R : Room} (C : XC p R s m args meth c cX6_search 11 (some .int) RX6 wsX6_search D tys) : CallW rm_X6_search s args RX6 RX6 152 yX6_isFilter cX6_isFilter 2 (some .boolean) wsX6_isFilter rm_X6_isFilter 0 0 1 := cwV 1 C.2.2.2.2.1 gX6_search_X6_isFilter rfl rfl rfl (by decide +kernel) ⟨Nat.le_of_ble_eq_true rfl, Nat.le_of_ble_eq_true rfl⟩
theorem cw_X6_search_X6_isHere_127 {p : Program} {s : State} {m : MethodId} {args : Array Value} {meth : Method} {c : Code} {D : va_G} {tys : List (ClassId × FieldType)} {R : Room} (C : XC p R s m args meth c cX6_search 11 (some .int) RX6 wsX6_search D tys) : CallW rm_X6_search s args RX6 RX6 127 yX6_isHere cX6_isHere 3 (some .boolean) wsX6_isHere rm_X6_isHere 0 0 2 := cwV 2 C.2.2.2.2.1 gX6_search_X6_isHere rfl rfl rfl (by decide +kernel) ⟨Nat.le_of_ble_eq_true rfl, Nat.le_of_ble_eq_true rfl⟩
theorem cw_X6_search_X6_isIn_84 {p : Program} {s : State} {m : MethodId} {args : Array Value} {meth : Method} {c : Code} {D : va_G} {tys : List (ClassId × FieldType)} {R : Room} (C : XC p R s m args meth c cX6_search 11 (some .int) RX6 wsX6_search D tys) : CallB rm_X6_search s args RX6 84 yX6_isIn cX6_isIn 3 (some .boolean) wsX6_isIn rm_X6_isIn 0 0 3 ∧ (Cond.static yX6_isIn).before args s = true := va_cwS 3 C.2.2.2.2.1 gX6_search_X6_isIn rfl rfl rfl (by decide +kernel) ⟨Nat.le_of_ble_eq_true rfl, Nat.le_of_ble_eq_true rfl⟩
def X6_search_b185 (S : St) : Option (Int32 × St) :=
  some ((-1), S)
set_option maxHeartbeats 4000000 in
set_option maxRecDepth 100000 in
theorem X_X6_search_b185 {p : Program} {l : Launch} {e : Env} {s : State} {m : MethodId} {args : Array Value} {below : List Frame} {meth : Method} {c : Code} {D : va_G} {cI cZ cJ : ClassId} {ad : Nat → Nat} {rest w0 : va_W} (C : XC p rm_X6_search s m args meth c cX6_search 11 (some .int) RX6 wsX6_search D (t3 cI cZ cJ)) {S : St} {r : Int32 × St} (h : X6_search_b185 S = some r) : XW p l e rm_X6_search s m args below meth c D w0 11 (MQ below (QI D (t3 cI cZ cJ) w0 (wM cI cZ ad r.2 rest) s.heap.size r.1) args s 0 0 (va_A w0 s.heap.size)) (wM cI cZ ad S rest) 0 0 185 [] [] := by
  unfold X6_search_b185 at h
  refine x_iconst C (v := (-1)) dX6_search_185 (by decide) ?_
  obtain rfl := Option.some.inj h
  exact x_iret C dX6_search_186
def X6_search_b180 (S : St) (x2 x3 x4 x5 x6 x8 s0 : Int32) : Option ((St × Int32 × Int32 × Int32 × Int32 × Int32 × Int32 × Int32) ⊕ (Int32 × St)) :=
  some (.inl (S, x2, x3, x4, x5, x6, x8, s0))
set_option maxHeartbeats 4000000 in
set_option maxRecDepth 100000 in
theorem X_X6_search_b180 {p : Program} {l : Launch} {e : Env} {s : State} {m : MethodId} {args : Array Value} {below : List Frame} {meth : Method} {c : Code} {D : va_G} {cI cZ cJ : ClassId} {ad : Nat → Nat} {rest w0 : va_W} (C : XC p rm_X6_search s m args meth c cX6_search 11 (some .int) RX6 wsX6_search D (t3 cI cZ cJ)) {S : St} {x2 x3 x4 x5 x6 x8 s0 : Int32} {z : (St × Int32 × Int32 × Int32 × Int32 × Int32 × Int32 × Int32) ⊕ (Int32 × St)} {r : Int32 × St} (h : X6_search_b180 S x2 x3 x4 x5 x6 x8 s0 = some z) (hk : ∀ a' : (St × Int32 × Int32 × Int32 × Int32 × Int32 × Int32 × Int32), z = .inl a' → XW p l e rm_X6_search s m args below meth c D w0 11 (MQ below (QI D (t3 cI cZ cJ) w0 (wM cI cZ ad r.2 rest) s.heap.size r.1) args s 0 0 (va_A w0 s.heap.size)) (wM cI cZ ad a'.1 rest) 0 0 98 [(0, .ref (ad 0)), (2, .int a'.2.1), (3, .int a'.2.2.1), (4, .int a'.2.2.2.1), (5, .int a'.2.2.2.2.1), (6, .int a'.2.2.2.2.2.1), (8, .int a'.2.2.2.2.2.2.1), (9, .int a'.2.2.2.2.2.2.2)] []) (hr : ∀ r', z = .inr r' → r' = r) : XW p l e rm_X6_search s m args below meth c D w0 11 (MQ below (QI D (t3 cI cZ cJ) w0 (wM cI cZ ad r.2 rest) s.heap.size r.1) args s 0 0 (va_A w0 s.heap.size)) (wM cI cZ ad S rest) 0 0 180 [(0, .ref (ad 0)), (2, .int x2), (3, .int x3), (4, .int x4), (5, .int x5), (6, .int x6), (8, .int x8)] [.int s0] := by
  unfold X6_search_b180 at h
  refine x_istore C (lv' := [(0, .ref (ad 0)), (2, .int x2), (3, .int x3), (4, .int x4), (5, .int x5), (6, .int x6), (8, .int x8), (9, .int s0)]) dX6_search_180 (by decide) rfl ?_
  refine x_goto C (t := 98) dX6_search_182 (by decide) ?_
  exact hk _ (Option.some.inj h).symm
def X6_search_b159 (S : St) (x2 x3 x4 x5 x6 x9 s0 s1 : Int32) : Option ((St × Int32 × Int32 × Int32 × Int32 × Int32 × Int32 × Int32) ⊕ (Int32 × St)) :=
  if x4 = 0 then (X6_search_b180 S x2 x3 x4 x5 x6 (s1 + s0) (-1)) else ((X6_goes S x9 x3 x4).bind fun v177 => X6_search_b180 S x2 x3 x4 x5 x6 (s1 + s0) v177)
set_option maxHeartbeats 4000000 in
set_option maxRecDepth 100000 in
theorem X_X6_search_b159 {p : Program} {l : Launch} {e : Env} {s : State} {m : MethodId} {args : Array Value} {below : List Frame} {meth : Method} {c : Code} {D : va_G} {cI cZ cJ : ClassId} {ad : Nat → Nat} {rest w0 : va_W} (C : XC p rm_X6_search s m args meth c cX6_search 11 (some .int) RX6 wsX6_search D (t3 cI cZ cJ)) {S : St} {x2 x3 x4 x5 x6 x9 s0 s1 : Int32} {z : (St × Int32 × Int32 × Int32 × Int32 × Int32 × Int32 × Int32) ⊕ (Int32 × St)} {r : Int32 × St} (h : X6_search_b159 S x2 x3 x4 x5 x6 x9 s0 s1 = some z) (hk : ∀ a' : (St × Int32 × Int32 × Int32 × Int32 × Int32 × Int32 × Int32), z = .inl a' → XW p l e rm_X6_search s m args below meth c D w0 11 (MQ below (QI D (t3 cI cZ cJ) w0 (wM cI cZ ad r.2 rest) s.heap.size r.1) args s 0 0 (va_A w0 s.heap.size)) (wM cI cZ ad a'.1 rest) 0 0 98 [(0, .ref (ad 0)), (2, .int a'.2.1), (3, .int a'.2.2.1), (4, .int a'.2.2.2.1), (5, .int a'.2.2.2.2.1), (6, .int a'.2.2.2.2.2.1), (8, .int a'.2.2.2.2.2.2.1), (9, .int a'.2.2.2.2.2.2.2)] []) (hr : ∀ r', z = .inr r' → r' = r) : XW p l e rm_X6_search s m args below meth c D w0 11 (MQ below (QI D (t3 cI cZ cJ) w0 (wM cI cZ ad r.2 rest) s.heap.size r.1) args s 0 0 (va_A w0 s.heap.size)) (wM cI cZ ad S rest) 0 0 159 [(0, .ref (ad 0)), (2, .int x2), (3, .int x3), (4, .int x4), (5, .int x5), (6, .int x6), (9, .int x9)] [.int s0, .int s1] := by
  unfold X6_search_b159 at h
  refine x_iadd C dX6_search_159 ?_
  refine x_istore C (lv' := [(0, .ref (ad 0)), (2, .int x2), (3, .int x3), (4, .int x4), (5, .int x5), (6, .int x6), (8, .int (s1 + s0)), (9, .int x9)]) dX6_search_160 (by decide) rfl ?_
  refine x_iload C 3 dX6_search_162 rfl ?_
  refine x_if_ne C (t := 171) dX6_search_164 (by decide) (fun c164 => ?_) (fun c164 => ?_)
  · replace h := (if_neg c164).symm.trans h
    refine x_aload_n C 0 dX6_search_171 rfl ?_
    refine x_iload C 7 dX6_search_172 rfl ?_
    refine x_iload_n C 2 dX6_search_174 rfl ?_
    refine x_iload C 3 dX6_search_175 rfl ?_
    obtain ⟨v177, hg177, h⟩ := ob h
    refine x_ci0 (x_runV C (As := [.int x9, .int x3, .int x4]) (rest := []) (c_X6_goes hg177) (cw_X6_search_X6_goes_173 C) 0 rfl rfl rfl (Nat.le_of_ble_eq_true rfl) dX6_search_177 ⟨Nat.zero_le _, Nat.zero_le _⟩) ?_
    refine x_locals (lv' := [(0, .ref (ad 0)), (2, .int x2), (3, .int x3), (4, .int x4), (5, .int x5), (6, .int x6), (8, .int (s1 + s0))]) [0, 1, 2, 3, 4, 5, 6] rfl ?_
    exact X_X6_search_b180 C h hk hr
  · replace h := (if_pos c164).symm.trans h
    refine x_iconst C (v := (-1)) dX6_search_167 (by decide) ?_
    refine x_goto C (t := 180) dX6_search_168 (by decide) ?_
    refine x_locals (lv' := [(0, .ref (ad 0)), (2, .int x2), (3, .int x3), (4, .int x4), (5, .int x5), (6, .int x6), (8, .int (s1 + s0))]) [0, 1, 2, 3, 4, 5, 6] rfl ?_
    exact X_X6_search_b180 C h hk hr
def X6_search_b147 (S : St) (x2 x3 x4 x5 x6 x8 x9 x10 : Int32) : Option ((St × Int32 × Int32 × Int32 × Int32 × Int32 × Int32 × Int32) ⊕ (Int32 × St)) :=
  if x10 = 0 then (X6_search_b159 S x2 x3 x4 x5 x6 x9 0 x8) else (X6_search_b159 S x2 x3 x4 x5 x6 x9 1 x8)
set_option maxHeartbeats 4000000 in
set_option maxRecDepth 100000 in
theorem X_X6_search_b147 {p : Program} {l : Launch} {e : Env} {s : State} {m : MethodId} {args : Array Value} {below : List Frame} {meth : Method} {c : Code} {D : va_G} {cI cZ cJ : ClassId} {ad : Nat → Nat} {rest w0 : va_W} (C : XC p rm_X6_search s m args meth c cX6_search 11 (some .int) RX6 wsX6_search D (t3 cI cZ cJ)) {S : St} {x2 x3 x4 x5 x6 x8 x9 x10 : Int32} {z : (St × Int32 × Int32 × Int32 × Int32 × Int32 × Int32 × Int32) ⊕ (Int32 × St)} {r : Int32 × St} (h : X6_search_b147 S x2 x3 x4 x5 x6 x8 x9 x10 = some z) (hk : ∀ a' : (St × Int32 × Int32 × Int32 × Int32 × Int32 × Int32 × Int32), z = .inl a' → XW p l e rm_X6_search s m args below meth c D w0 11 (MQ below (QI D (t3 cI cZ cJ) w0 (wM cI cZ ad r.2 rest) s.heap.size r.1) args s 0 0 (va_A w0 s.heap.size)) (wM cI cZ ad a'.1 rest) 0 0 98 [(0, .ref (ad 0)), (2, .int a'.2.1), (3, .int a'.2.2.1), (4, .int a'.2.2.2.1), (5, .int a'.2.2.2.2.1), (6, .int a'.2.2.2.2.2.1), (8, .int a'.2.2.2.2.2.2.1), (9, .int a'.2.2.2.2.2.2.2)] []) (hr : ∀ r', z = .inr r' → r' = r) : XW p l e rm_X6_search s m args below meth c D w0 11 (MQ below (QI D (t3 cI cZ cJ) w0 (wM cI cZ ad r.2 rest) s.heap.size r.1) args s 0 0 (va_A w0 s.heap.size)) (wM cI cZ ad S rest) 0 0 147 [(0, .ref (ad 0)), (2, .int x2), (3, .int x3), (4, .int x4), (5, .int x5), (6, .int x6), (8, .int x8), (9, .int x9), (10, .int x10)] [] := by
  unfold X6_search_b147 at h
  refine x_iload C 6 dX6_search_147 rfl ?_
  refine x_iload C 8 dX6_search_149 rfl ?_
  refine x_if_eq C (t := 158) dX6_search_151 (by decide) (fun c151 => ?_) (fun c151 => ?_)
  · replace h := (if_pos c151).symm.trans h
    refine x_iconst C (v := 0) dX6_search_158 (by decide) ?_
    refine x_locals (lv' := [(0, .ref (ad 0)), (2, .int x2), (3, .int x3), (4, .int x4), (5, .int x5), (6, .int x6), (9, .int x9)]) [0, 1, 2, 3, 4, 5, 7] rfl ?_
    exact X_X6_search_b159 C h hk hr
  · replace h := (if_neg c151).symm.trans h
    refine x_iconst C (v := 1) dX6_search_154 (by decide) ?_
    refine x_goto C (t := 159) dX6_search_155 (by decide) ?_
    refine x_locals (lv' := [(0, .ref (ad 0)), (2, .int x2), (3, .int x3), (4, .int x4), (5, .int x5), (6, .int x6), (9, .int x9)]) [0, 1, 2, 3, 4, 5, 7] rfl ?_
    exact X_X6_search_b159 C h hk hr
def X6_search_b144 (S : St) (x9 : Int32) : Option (Int32 × St) :=
  some (x9, S)
set_option maxHeartbeats 4000000 in
set_option maxRecDepth 100000 in
theorem X_X6_search_b144 {p : Program} {l : Launch} {e : Env} {s : State} {m : MethodId} {args : Array Value} {below : List Frame} {meth : Method} {c : Code} {D : va_G} {cI cZ cJ : ClassId} {ad : Nat → Nat} {rest w0 : va_W} (C : XC p rm_X6_search s m args meth c cX6_search 11 (some .int) RX6 wsX6_search D (t3 cI cZ cJ)) {S : St} {x9 : Int32} {r : Int32 × St} (h : X6_search_b144 S x9 = some r) : XW p l e rm_X6_search s m args below meth c D w0 11 (MQ below (QI D (t3 cI cZ cJ) w0 (wM cI cZ ad r.2 rest) s.heap.size r.1) args s 0 0 (va_A w0 s.heap.size)) (wM cI cZ ad S rest) 0 0 144 [(9, .int x9)] [] := by
  unfold X6_search_b144 at h
  refine x_iload C 0 dX6_search_144 rfl ?_
  obtain rfl := Option.some.inj h
  exact x_iret C dX6_search_146
def X6_search_b130 (S : St) (x2 x3 x4 x5 x6 x8 x9 s0 : Int32) : Option ((St × Int32 × Int32 × Int32 × Int32 × Int32 × Int32 × Int32) ⊕ (Int32 × St)) :=
  if s0 = 0 then (X6_search_b147 S x2 x3 x4 x5 x6 x8 x9 s0) else (if x8 = x6 then (exI (X6_search_b144 S x9)) else (X6_search_b147 S x2 x3 x4 x5 x6 x8 x9 s0))
set_option maxHeartbeats 4000000 in
set_option maxRecDepth 100000 in
theorem X_X6_search_b130 {p : Program} {l : Launch} {e : Env} {s : State} {m : MethodId} {args : Array Value} {below : List Frame} {meth : Method} {c : Code} {D : va_G} {cI cZ cJ : ClassId} {ad : Nat → Nat} {rest w0 : va_W} (C : XC p rm_X6_search s m args meth c cX6_search 11 (some .int) RX6 wsX6_search D (t3 cI cZ cJ)) {S : St} {x2 x3 x4 x5 x6 x8 x9 s0 : Int32} {z : (St × Int32 × Int32 × Int32 × Int32 × Int32 × Int32 × Int32) ⊕ (Int32 × St)} {r : Int32 × St} (h : X6_search_b130 S x2 x3 x4 x5 x6 x8 x9 s0 = some z) (hk : ∀ a' : (St × Int32 × Int32 × Int32 × Int32 × Int32 × Int32 × Int32), z = .inl a' → XW p l e rm_X6_search s m args below meth c D w0 11 (MQ below (QI D (t3 cI cZ cJ) w0 (wM cI cZ ad r.2 rest) s.heap.size r.1) args s 0 0 (va_A w0 s.heap.size)) (wM cI cZ ad a'.1 rest) 0 0 98 [(0, .ref (ad 0)), (2, .int a'.2.1), (3, .int a'.2.2.1), (4, .int a'.2.2.2.1), (5, .int a'.2.2.2.2.1), (6, .int a'.2.2.2.2.2.1), (8, .int a'.2.2.2.2.2.2.1), (9, .int a'.2.2.2.2.2.2.2)] []) (hr : ∀ r', z = .inr r' → r' = r) : XW p l e rm_X6_search s m args below meth c D w0 11 (MQ below (QI D (t3 cI cZ cJ) w0 (wM cI cZ ad r.2 rest) s.heap.size r.1) args s 0 0 (va_A w0 s.heap.size)) (wM cI cZ ad S rest) 0 0 130 [(0, .ref (ad 0)), (2, .int x2), (3, .int x3), (4, .int x4), (5, .int x5), (6, .int x6), (8, .int x8), (9, .int x9)] [.int s0] := by
  unfold X6_search_b130 at h
  refine x_istore C (lv' := [(0, .ref (ad 0)), (2, .int x2), (3, .int x3), (4, .int x4), (5, .int x5), (6, .int x6), (8, .int x8), (9, .int x9), (10, .int s0)]) dX6_search_130 (by decide) rfl ?_
  refine x_iload C 8 dX6_search_132 rfl ?_
  refine x_if_eq C (t := 147) dX6_search_134 (by decide) (fun c134 => ?_) (fun c134 => ?_)
  · replace h := (if_pos c134).symm.trans h
    exact X_X6_search_b147 C h hk hr
  · replace h := (if_neg c134).symm.trans h
    refine x_iload C 6 dX6_search_137 rfl ?_
    refine x_iload C 5 dX6_search_139 rfl ?_
    refine x_icmp_ne C (t := 147) dX6_search_141 (by decide) (fun c141 => ?_) (fun c141 => ?_)
    · replace h := (if_neg c141).symm.trans h
      exact X_X6_search_b147 C h hk hr
    · replace h := (if_pos c141).symm.trans h
      refine x_locals (lv' := [(9, .int x9)]) [7] rfl ?_
      obtain ⟨r1, h1, h2⟩ := exI_some h
      obtain rfl := hr r1 h2
      exact X_X6_search_b144 C h1
def X6_search_b129 (S : St) (x2 x3 x4 x5 x6 x8 x9 : Int32) : Option ((St × Int32 × Int32 × Int32 × Int32 × Int32 × Int32 × Int32) ⊕ (Int32 × St)) :=
  X6_search_b130 S x2 x3 x4 x5 x6 x8 x9 0
set_option maxHeartbeats 4000000 in
set_option maxRecDepth 100000 in
theorem X_X6_search_b129 {p : Program} {l : Launch} {e : Env} {s : State} {m : MethodId} {args : Array Value} {below : List Frame} {meth : Method} {c : Code} {D : va_G} {cI cZ cJ : ClassId} {ad : Nat → Nat} {rest w0 : va_W} (C : XC p rm_X6_search s m args meth c cX6_search 11 (some .int) RX6 wsX6_search D (t3 cI cZ cJ)) {S : St} {x2 x3 x4 x5 x6 x8 x9 : Int32} {z : (St × Int32 × Int32 × Int32 × Int32 × Int32 × Int32 × Int32) ⊕ (Int32 × St)} {r : Int32 × St} (h : X6_search_b129 S x2 x3 x4 x5 x6 x8 x9 = some z) (hk : ∀ a' : (St × Int32 × Int32 × Int32 × Int32 × Int32 × Int32 × Int32), z = .inl a' → XW p l e rm_X6_search s m args below meth c D w0 11 (MQ below (QI D (t3 cI cZ cJ) w0 (wM cI cZ ad r.2 rest) s.heap.size r.1) args s 0 0 (va_A w0 s.heap.size)) (wM cI cZ ad a'.1 rest) 0 0 98 [(0, .ref (ad 0)), (2, .int a'.2.1), (3, .int a'.2.2.1), (4, .int a'.2.2.2.1), (5, .int a'.2.2.2.2.1), (6, .int a'.2.2.2.2.2.1), (8, .int a'.2.2.2.2.2.2.1), (9, .int a'.2.2.2.2.2.2.2)] []) (hr : ∀ r', z = .inr r' → r' = r) : XW p l e rm_X6_search s m args below meth c D w0 11 (MQ below (QI D (t3 cI cZ cJ) w0 (wM cI cZ ad r.2 rest) s.heap.size r.1) args s 0 0 (va_A w0 s.heap.size)) (wM cI cZ ad S rest) 0 0 129 [(0, .ref (ad 0)), (2, .int x2), (3, .int x3), (4, .int x4), (5, .int x5), (6, .int x6), (8, .int x8), (9, .int x9)] [] := by
  unfold X6_search_b129 at h
  refine x_iconst C (v := 0) dX6_search_129 (by decide) ?_
  exact X_X6_search_b130 C h hk hr
def X6_search_b111 (S : St) (x2 x3 x4 x5 x6 x8 x9 s0 : Int32) : Option ((St × Int32 × Int32 × Int32 × Int32 × Int32 × Int32 × Int32) ⊕ (Int32 × St)) :=
  if s0 = 1 then ((X6_counted S x2 x9).bind fun v119 => if v119 = 0 then (X6_search_b130 S x2 x3 x4 x5 x6 x8 x9 1) else (X6_search_b129 S x2 x3 x4 x5 x6 x8 x9)) else (X6_search_b129 S x2 x3 x4 x5 x6 x8 x9)
set_option maxHeartbeats 4000000 in
set_option maxRecDepth 100000 in
theorem X_X6_search_b111 {p : Program} {l : Launch} {e : Env} {s : State} {m : MethodId} {args : Array Value} {below : List Frame} {meth : Method} {c : Code} {D : va_G} {cI cZ cJ : ClassId} {ad : Nat → Nat} {rest w0 : va_W} (C : XC p rm_X6_search s m args meth c cX6_search 11 (some .int) RX6 wsX6_search D (t3 cI cZ cJ)) {S : St} {x2 x3 x4 x5 x6 x8 x9 s0 : Int32} {z : (St × Int32 × Int32 × Int32 × Int32 × Int32 × Int32 × Int32) ⊕ (Int32 × St)} {r : Int32 × St} (h : X6_search_b111 S x2 x3 x4 x5 x6 x8 x9 s0 = some z) (hk : ∀ a' : (St × Int32 × Int32 × Int32 × Int32 × Int32 × Int32 × Int32), z = .inl a' → XW p l e rm_X6_search s m args below meth c D w0 11 (MQ below (QI D (t3 cI cZ cJ) w0 (wM cI cZ ad r.2 rest) s.heap.size r.1) args s 0 0 (va_A w0 s.heap.size)) (wM cI cZ ad a'.1 rest) 0 0 98 [(0, .ref (ad 0)), (2, .int a'.2.1), (3, .int a'.2.2.1), (4, .int a'.2.2.2.1), (5, .int a'.2.2.2.2.1), (6, .int a'.2.2.2.2.2.1), (8, .int a'.2.2.2.2.2.2.1), (9, .int a'.2.2.2.2.2.2.2)] []) (hr : ∀ r', z = .inr r' → r' = r) : XW p l e rm_X6_search s m args below meth c D w0 11 (MQ below (QI D (t3 cI cZ cJ) w0 (wM cI cZ ad r.2 rest) s.heap.size r.1) args s 0 0 (va_A w0 s.heap.size)) (wM cI cZ ad S rest) 0 0 111 [(0, .ref (ad 0)), (2, .int x2), (3, .int x3), (4, .int x4), (5, .int x5), (6, .int x6), (8, .int x8), (9, .int x9)] [.int s0] := by
  unfold X6_search_b111 at h
  refine x_iconst C (v := 1) dX6_search_111 (by decide) ?_
  refine x_icmp_ne C (t := 129) dX6_search_112 (by decide) (fun c112 => ?_) (fun c112 => ?_)
  · replace h := (if_neg c112).symm.trans h
    exact X_X6_search_b129 C h hk hr
  · replace h := (if_pos c112).symm.trans h
    refine x_aload_n C 0 dX6_search_115 rfl ?_
    refine x_iload_n C 1 dX6_search_116 rfl ?_
    refine x_iload C 7 dX6_search_117 rfl ?_
    obtain ⟨v119, hg119, h⟩ := ob h
    refine x_ci0 (x_runV C (As := [.int x2, .int x9]) (rest := []) (c_X6_counted hg119) (cw_X6_search_X6_counted_176 C) 0 rfl rfl rfl (Nat.le_of_ble_eq_true rfl) dX6_search_119 ⟨Nat.zero_le _, Nat.zero_le _⟩) ?_
    refine x_if_ne C (t := 129) dX6_search_122 (by decide) (fun c122 => ?_) (fun c122 => ?_)
    · replace h := (if_neg c122).symm.trans h
      exact X_X6_search_b129 C h hk hr
    · replace h := (if_pos c122).symm.trans h
      refine x_iconst C (v := 1) dX6_search_125 (by decide) ?_
      refine x_goto C (t := 130) dX6_search_126 (by decide) ?_
      exact X_X6_search_b130 C h hk hr
def X6_search_H98 (S : St) (x2 x3 x4 x5 x6 x8 x9 : Int32) : Option ((St × Int32 × Int32 × Int32 × Int32 × Int32 × Int32 × Int32) ⊕ (Int32 × St)) :=
  if x9 < 0 then (exI (X6_search_b185 S)) else ((X6_filtered S x5 x9).bind fun q108 => X6_search_b111 q108.2 x2 x3 x4 x5 x6 x8 x9 q108.1)
set_option maxHeartbeats 4000000 in
set_option maxRecDepth 100000 in
theorem X_X6_search_H98 {p : Program} {l : Launch} {e : Env} {s : State} {m : MethodId} {args : Array Value} {below : List Frame} {meth : Method} {c : Code} {D : va_G} {cI cZ cJ : ClassId} {ad : Nat → Nat} {rest w0 : va_W} (C : XC p rm_X6_search s m args meth c cX6_search 11 (some .int) RX6 wsX6_search D (t3 cI cZ cJ)) {S : St} {x2 x3 x4 x5 x6 x8 x9 : Int32} {z : (St × Int32 × Int32 × Int32 × Int32 × Int32 × Int32 × Int32) ⊕ (Int32 × St)} {r : Int32 × St} (h : X6_search_H98 S x2 x3 x4 x5 x6 x8 x9 = some z) (hk : ∀ a' : (St × Int32 × Int32 × Int32 × Int32 × Int32 × Int32 × Int32), z = .inl a' → XW p l e rm_X6_search s m args below meth c D w0 11 (MQ below (QI D (t3 cI cZ cJ) w0 (wM cI cZ ad r.2 rest) s.heap.size r.1) args s 0 0 (va_A w0 s.heap.size)) (wM cI cZ ad a'.1 rest) 0 0 98 [(0, .ref (ad 0)), (2, .int a'.2.1), (3, .int a'.2.2.1), (4, .int a'.2.2.2.1), (5, .int a'.2.2.2.2.1), (6, .int a'.2.2.2.2.2.1), (8, .int a'.2.2.2.2.2.2.1), (9, .int a'.2.2.2.2.2.2.2)] []) (hr : ∀ r', z = .inr r' → r' = r) : XW p l e rm_X6_search s m args below meth c D w0 11 (MQ below (QI D (t3 cI cZ cJ) w0 (wM cI cZ ad r.2 rest) s.heap.size r.1) args s 0 0 (va_A w0 s.heap.size)) (wM cI cZ ad S rest) 0 0 98 [(0, .ref (ad 0)), (2, .int x2), (3, .int x3), (4, .int x4), (5, .int x5), (6, .int x6), (8, .int x8), (9, .int x9)] [] := by
  unfold X6_search_H98 at h
  refine x_iload C 7 dX6_search_98 rfl ?_
  refine x_if_lt C (t := 185) dX6_search_100 (by decide) (fun c100 => ?_) (fun c100 => ?_)
  · replace h := (if_pos c100).symm.trans h
    refine x_locals (lv' := []) [] rfl ?_
    obtain ⟨r1, h1, h2⟩ := exI_some h
    obtain rfl := hr r1 h2
    exact X_X6_search_b185 C h1
  · replace h := (if_neg c100).symm.trans h
    refine x_aload_n C 0 dX6_search_103 rfl ?_
    refine x_iload C 4 dX6_search_104 rfl ?_
    refine x_iload C 7 dX6_search_106 rfl ?_
    obtain ⟨⟨v108, S108⟩, hg108, h⟩ := ob h
    refine x_ci0 (x_runV C (As := [.int x5, .int x9]) (rest := []) (c_X6_filtered hg108) (cw_X6_search_X6_filtered_164 C) 0 rfl rfl rfl (Nat.le_of_ble_eq_true rfl) dX6_search_108 ⟨Nat.zero_le _, Nat.zero_le _⟩) ?_
    exact X_X6_search_b111 C h hk hr
def X6_search_L98 (S : St) (x2 x3 x4 x5 x6 x8 x9 : Int32) : Option (Int32 × St) := wloop (fun a' : (St × Int32 × Int32 × Int32 × Int32 × Int32 × Int32 × Int32) => X6_search_H98 a'.1 a'.2.1 a'.2.2.1 a'.2.2.2.1 a'.2.2.2.2.1 a'.2.2.2.2.2.1 a'.2.2.2.2.2.2.1 a'.2.2.2.2.2.2.2) 1000 (S, x2, x3, x4, x5, x6, x8, x9)
set_option maxHeartbeats 4000000 in
set_option maxRecDepth 100000 in
theorem X_X6_search_L98 {p : Program} {l : Launch} {e : Env} {s : State} {m : MethodId} {args : Array Value} {below : List Frame} {meth : Method} {c : Code} {D : va_G} {cI cZ cJ : ClassId} {ad : Nat → Nat} {rest w0 : va_W} (C : XC p rm_X6_search s m args meth c cX6_search 11 (some .int) RX6 wsX6_search D (t3 cI cZ cJ)) {S : St} {x2 x3 x4 x5 x6 x8 x9 : Int32} {r : Int32 × St} (h : X6_search_L98 S x2 x3 x4 x5 x6 x8 x9 = some r) : XW p l e rm_X6_search s m args below meth c D w0 11 (MQ below (QI D (t3 cI cZ cJ) w0 (wM cI cZ ad r.2 rest) s.heap.size r.1) args s 0 0 (va_A w0 s.heap.size)) (wM cI cZ ad S rest) 0 0 98 [(0, .ref (ad 0)), (2, .int x2), (3, .int x3), (4, .int x4), (5, .int x5), (6, .int x6), (8, .int x8), (9, .int x9)] [] :=
  wloop_met (P := (fun a' : (St × Int32 × Int32 × Int32 × Int32 × Int32 × Int32 × Int32) => XW p l e rm_X6_search s m args below meth c D w0 11 (MQ below (QI D (t3 cI cZ cJ) w0 (wM cI cZ ad r.2 rest) s.heap.size r.1) args s 0 0 (va_A w0 s.heap.size)) (wM cI cZ ad a'.1 rest) 0 0 98 [(0, .ref (ad 0)), (2, .int a'.2.1), (3, .int a'.2.2.1), (4, .int a'.2.2.2.1), (5, .int a'.2.2.2.2.1), (6, .int a'.2.2.2.2.2.1), (8, .int a'.2.2.2.2.2.2.1), (9, .int a'.2.2.2.2.2.2.2)] [])) (fun _ _ hz hk hr => X_X6_search_H98 C hz hk hr) 1000 (S, x2, x3, x4, x5, x6, x8, x9) h
def X6_search_b96 (S : St) (x2 x3 x4 x5 x6 x8 s0 : Int32) : Option (Int32 × St) :=
  X6_search_L98 S x2 x3 x4 x5 x6 x8 s0
set_option maxHeartbeats 4000000 in
set_option maxRecDepth 100000 in
theorem X_X6_search_b96 {p : Program} {l : Launch} {e : Env} {s : State} {m : MethodId} {args : Array Value} {below : List Frame} {meth : Method} {c : Code} {D : va_G} {cI cZ cJ : ClassId} {ad : Nat → Nat} {rest w0 : va_W} (C : XC p rm_X6_search s m args meth c cX6_search 11 (some .int) RX6 wsX6_search D (t3 cI cZ cJ)) {S : St} {x2 x3 x4 x5 x6 x8 s0 : Int32} {r : Int32 × St} (h : X6_search_b96 S x2 x3 x4 x5 x6 x8 s0 = some r) : XW p l e rm_X6_search s m args below meth c D w0 11 (MQ below (QI D (t3 cI cZ cJ) w0 (wM cI cZ ad r.2 rest) s.heap.size r.1) args s 0 0 (va_A w0 s.heap.size)) (wM cI cZ ad S rest) 0 0 96 [(0, .ref (ad 0)), (2, .int x2), (3, .int x3), (4, .int x4), (5, .int x5), (6, .int x6), (8, .int x8)] [.int s0] := by
  unfold X6_search_b96 at h
  refine x_istore C (lv' := [(0, .ref (ad 0)), (2, .int x2), (3, .int x3), (4, .int x4), (5, .int x5), (6, .int x6), (8, .int x8), (9, .int s0)]) dX6_search_96 (by decide) rfl ?_
  exact X_X6_search_L98 C h
def X6_search_b67 (S : St) (x2 x3 x4 x5 x6 : Int32) : Option (Int32 × St) :=
  if (S 0 25) ≤ 0 then (if x4 = 1 then ((X6_goes S x3 x3 1).bind fun v89 => X6_search_b96 S x2 x3 x4 x5 x6 0 v89) else (X6_search_b96 S x2 x3 x4 x5 x6 0 x3)) else (some (0, S))
set_option maxHeartbeats 4000000 in
set_option maxRecDepth 100000 in
theorem X_X6_search_b67 {p : Program} {l : Launch} {e : Env} {s : State} {m : MethodId} {args : Array Value} {below : List Frame} {meth : Method} {c : Code} {D : va_G} {cI cZ cJ : ClassId} {ad : Nat → Nat} {rest w0 : va_W} (C : XC p rm_X6_search s m args meth c cX6_search 11 (some .int) RX6 wsX6_search D (t3 cI cZ cJ)) {S : St} {x2 x3 x4 x5 x6 : Int32} {r : Int32 × St} (h : X6_search_b67 S x2 x3 x4 x5 x6 = some r) : XW p l e rm_X6_search s m args below meth c D w0 11 (MQ below (QI D (t3 cI cZ cJ) w0 (wM cI cZ ad r.2 rest) s.heap.size r.1) args s 0 0 (va_A w0 s.heap.size)) (wM cI cZ ad S rest) 0 0 67 [(0, .ref (ad 0)), (2, .int x2), (3, .int x3), (4, .int x4), (5, .int x5), (6, .int x6)] [] := by
  unfold X6_search_b67 at h
  refine x_aload_n C 0 dX6_search_67 rfl ?_
  refine x_get C (R' := RX6) (T := TX6) (N := 26) (ci := 6) 0 25 rfl rfl (by decide) rfl rfl hi_X6_search_6 lk_X6_search_80 dX6_search_68 ?_
  refine x_if_le C (t := 76) dX6_search_71 (by decide) (fun c71 => ?_) (fun c71 => ?_)
  · replace h := (if_pos c71).symm.trans h
    refine x_iconst C (v := 0) dX6_search_76 (by decide) ?_
    refine x_istore C (lv' := [(0, .ref (ad 0)), (2, .int x2), (3, .int x3), (4, .int x4), (5, .int x5), (6, .int x6), (8, .int 0)]) dX6_search_77 (by decide) rfl ?_
    refine x_iload C 3 dX6_search_79 rfl ?_
    refine x_iconst C (v := 1) dX6_search_81 (by decide) ?_
    refine x_icmp_ne C (t := 95) dX6_search_82 (by decide) (fun c82 => ?_) (fun c82 => ?_)
    · replace h := (if_neg c82).symm.trans h
      refine x_iload_n C 2 dX6_search_95 rfl ?_
      exact X_X6_search_b96 C h
    · replace h := (if_pos c82).symm.trans h
      refine x_aload_n C 0 dX6_search_85 rfl ?_
      refine x_iload_n C 2 dX6_search_86 rfl ?_
      refine x_iload_n C 2 dX6_search_87 rfl ?_
      refine x_iconst C (v := 1) dX6_search_88 (by decide) ?_
      obtain ⟨v89, hg89, h⟩ := ob h
      refine x_ci0 (x_runV C (As := [.int x3, .int x3, .int 1]) (rest := []) (c_X6_goes hg89) (cw_X6_search_X6_goes_173 C) 0 rfl rfl rfl (Nat.le_of_ble_eq_true rfl) dX6_search_89 ⟨Nat.zero_le _, Nat.zero_le _⟩) ?_
      refine x_goto C (t := 96) dX6_search_92 (by decide) ?_
      exact X_X6_search_b96 C h
  · replace h := (if_neg c71).symm.trans h
    refine x_iconst C (v := 0) dX6_search_74 (by decide) ?_
    obtain rfl := Option.some.inj h
    exact x_iret C dX6_search_75
def X6_search_b64 (S : St) (x2 x3 x4 x5 x6 s0 : Int32) : Option (Int32 × St) :=
  X6_search_b67 (up S 0 (upd (S 0) 25 s0)) x2 x3 x4 x5 x6
set_option maxHeartbeats 4000000 in
set_option maxRecDepth 100000 in
theorem X_X6_search_b64 {p : Program} {l : Launch} {e : Env} {s : State} {m : MethodId} {args : Array Value} {below : List Frame} {meth : Method} {c : Code} {D : va_G} {cI cZ cJ : ClassId} {ad : Nat → Nat} {rest w0 : va_W} (C : XC p rm_X6_search s m args meth c cX6_search 11 (some .int) RX6 wsX6_search D (t3 cI cZ cJ)) {S : St} {x2 x3 x4 x5 x6 s0 : Int32} {r : Int32 × St} (h : X6_search_b64 S x2 x3 x4 x5 x6 s0 = some r) : XW p l e rm_X6_search s m args below meth c D w0 11 (MQ below (QI D (t3 cI cZ cJ) w0 (wM cI cZ ad r.2 rest) s.heap.size r.1) args s 0 0 (va_A w0 s.heap.size)) (wM cI cZ ad S rest) 0 0 64 [(0, .ref (ad 0)), (2, .int x2), (3, .int x3), (4, .int x4), (5, .int x5), (6, .int x6)] [.int s0, .ref (ad 0)] := by
  unfold X6_search_b64 at h
  refine x_put C (R' := RX6) (T := TX6) (N := 26) (ci := 6) tyX6 tyX6_ok nmX6 0 25 rfl rfl (by decide) rfl rfl (lt_ble rfl) rfl hi_X6_search_6 lk_X6_search_80 dX6_search_64 (wM_f0_25 cI cZ ad S rest s0) ?_
  exact X_X6_search_b67 C h
def X6_search_b37 (S : St) (x2 x3 x4 x5 x6 s0 : Int32) : Option (Int32 × St) :=
  if s0 = 0 then (X6_search_b64 S x2 x3 x4 x5 x6 1) else ((X6_isIn x4 0 2).bind fun v53 => if v53 = 0 then (X6_search_b64 S x2 x3 x4 x5 x6 2) else (X6_search_b64 S x2 x3 x4 x5 x6 0))
set_option maxHeartbeats 4000000 in
set_option maxRecDepth 100000 in
theorem X_X6_search_b37 {p : Program} {l : Launch} {e : Env} {s : State} {m : MethodId} {args : Array Value} {below : List Frame} {meth : Method} {c : Code} {D : va_G} {cI cZ cJ : ClassId} {ad : Nat → Nat} {rest w0 : va_W} (C : XC p rm_X6_search s m args meth c cX6_search 11 (some .int) RX6 wsX6_search D (t3 cI cZ cJ)) {S : St} {x2 x3 x4 x5 x6 s0 : Int32} {r : Int32 × St} (h : X6_search_b37 S x2 x3 x4 x5 x6 s0 = some r) : XW p l e rm_X6_search s m args below meth c D w0 11 (MQ below (QI D (t3 cI cZ cJ) w0 (wM cI cZ ad r.2 rest) s.heap.size r.1) args s 0 0 (va_A w0 s.heap.size)) (wM cI cZ ad S rest) 0 0 37 [(0, .ref (ad 0)), (2, .int x2), (3, .int x3), (4, .int x4), (5, .int x5), (6, .int x6)] [.int s0] := by
  unfold X6_search_b37 at h
  refine x_istore C (lv' := [(0, .ref (ad 0)), (2, .int x2), (3, .int x3), (4, .int x4), (5, .int x5), (6, .int x6), (7, .int s0)]) dX6_search_37 (by decide) rfl ?_
  refine x_aload_n C 0 dX6_search_39 rfl ?_
  refine x_iload C 6 dX6_search_40 rfl ?_
  refine x_if_ne C (t := 49) dX6_search_42 (by decide) (fun c42 => ?_) (fun c42 => ?_)
  · replace h := (if_neg c42).symm.trans h
    refine x_iload C 3 dX6_search_49 rfl ?_
    refine x_iconst C (v := 0) dX6_search_51 (by decide) ?_
    refine x_iconst C (v := 2) dX6_search_52 (by decide) ?_
    obtain ⟨v53, hg53, h⟩ := ob h
    refine x_ci0 (x_runS C (As := [.int x4, .int 0, .int 2]) (rest := [.ref (ad 0)]) (c_X6_isIn hg53) (cw_X6_search_X6_isIn_84 C) rfl (Nat.le_of_ble_eq_true rfl) dX6_search_53 ⟨Nat.zero_le _, Nat.zero_le _⟩) ?_
    refine x_if_eq C (t := 63) dX6_search_56 (by decide) (fun c56 => ?_) (fun c56 => ?_)
    · replace h := (if_pos c56).symm.trans h
      refine x_iconst C (v := 2) dX6_search_63 (by decide) ?_
      refine x_locals (lv' := [(0, .ref (ad 0)), (2, .int x2), (3, .int x3), (4, .int x4), (5, .int x5), (6, .int x6)]) [0, 1, 2, 3, 4, 5] rfl ?_
      exact X_X6_search_b64 C h
    · replace h := (if_neg c56).symm.trans h
      refine x_iconst C (v := 0) dX6_search_59 (by decide) ?_
      refine x_goto C (t := 64) dX6_search_60 (by decide) ?_
      refine x_locals (lv' := [(0, .ref (ad 0)), (2, .int x2), (3, .int x3), (4, .int x4), (5, .int x5), (6, .int x6)]) [0, 1, 2, 3, 4, 5] rfl ?_
      exact X_X6_search_b64 C h
  · replace h := (if_pos c42).symm.trans h
    refine x_iconst C (v := 1) dX6_search_45 (by decide) ?_
    refine x_goto C (t := 64) dX6_search_46 (by decide) ?_
    refine x_locals (lv' := [(0, .ref (ad 0)), (2, .int x2), (3, .int x3), (4, .int x4), (5, .int x5), (6, .int x6)]) [0, 1, 2, 3, 4, 5] rfl ?_
    exact X_X6_search_b64 C h
def X6_search_b36 (S : St) (x2 x3 x4 x5 x6 : Int32) : Option (Int32 × St) :=
  X6_search_b37 S x2 x3 x4 x5 x6 0
set_option maxHeartbeats 4000000 in
set_option maxRecDepth 100000 in
theorem X_X6_search_b36 {p : Program} {l : Launch} {e : Env} {s : State} {m : MethodId} {args : Array Value} {below : List Frame} {meth : Method} {c : Code} {D : va_G} {cI cZ cJ : ClassId} {ad : Nat → Nat} {rest w0 : va_W} (C : XC p rm_X6_search s m args meth c cX6_search 11 (some .int) RX6 wsX6_search D (t3 cI cZ cJ)) {S : St} {x2 x3 x4 x5 x6 : Int32} {r : Int32 × St} (h : X6_search_b36 S x2 x3 x4 x5 x6 = some r) : XW p l e rm_X6_search s m args below meth c D w0 11 (MQ below (QI D (t3 cI cZ cJ) w0 (wM cI cZ ad r.2 rest) s.heap.size r.1) args s 0 0 (va_A w0 s.heap.size)) (wM cI cZ ad S rest) 0 0 36 [(0, .ref (ad 0)), (2, .int x2), (3, .int x3), (4, .int x4), (5, .int x5), (6, .int x6)] [] := by
  unfold X6_search_b36 at h
  refine x_iconst C (v := 0) dX6_search_36 (by decide) ?_
  exact X_X6_search_b37 C h
def X6_search_b6 (S : St) (x2 x3 x4 x5 x6 s0 : Int32) : Option (Int32 × St) :=
  if s0 = 0 then (X6_search_b36 S x2 x3 x4 x5 x6) else ((X6_isIn x2 0 2).bind fun v12 => if v12 = 0 then (X6_search_b36 S x2 x3 x4 x5 x6) else ((X6_isFilter S x5).bind fun v21 => if v21 = 0 then (X6_search_b36 S x2 x3 x4 x5 x6) else (if x6 < 0 then (X6_search_b36 S x2 x3 x4 x5 x6) else (X6_search_b37 S x2 x3 x4 x5 x6 1))))
set_option maxHeartbeats 4000000 in
set_option maxRecDepth 100000 in
theorem X_X6_search_b6 {p : Program} {l : Launch} {e : Env} {s : State} {m : MethodId} {args : Array Value} {below : List Frame} {meth : Method} {c : Code} {D : va_G} {cI cZ cJ : ClassId} {ad : Nat → Nat} {rest w0 : va_W} (C : XC p rm_X6_search s m args meth c cX6_search 11 (some .int) RX6 wsX6_search D (t3 cI cZ cJ)) {S : St} {x2 x3 x4 x5 x6 s0 : Int32} {r : Int32 × St} (h : X6_search_b6 S x2 x3 x4 x5 x6 s0 = some r) : XW p l e rm_X6_search s m args below meth c D w0 11 (MQ below (QI D (t3 cI cZ cJ) w0 (wM cI cZ ad r.2 rest) s.heap.size r.1) args s 0 0 (va_A w0 s.heap.size)) (wM cI cZ ad S rest) 0 0 6 [(0, .ref (ad 0)), (2, .int x2), (3, .int x3), (4, .int x4), (5, .int x5), (6, .int x6)] [.int s0] := by
  unfold X6_search_b6 at h
  refine x_if_eq C (t := 36) dX6_search_6 (by decide) (fun c6 => ?_) (fun c6 => ?_)
  · replace h := (if_pos c6).symm.trans h
    exact X_X6_search_b36 C h
  · replace h := (if_neg c6).symm.trans h
    refine x_iload_n C 1 dX6_search_9 rfl ?_
    refine x_iconst C (v := 0) dX6_search_10 (by decide) ?_
    refine x_iconst C (v := 2) dX6_search_11 (by decide) ?_
    obtain ⟨v12, hg12, h⟩ := ob h
    refine x_ci0 (x_runS C (As := [.int x2, .int 0, .int 2]) (rest := []) (c_X6_isIn hg12) (cw_X6_search_X6_isIn_84 C) rfl (Nat.le_of_ble_eq_true rfl) dX6_search_12 ⟨Nat.zero_le _, Nat.zero_le _⟩) ?_
    refine x_if_eq C (t := 36) dX6_search_15 (by decide) (fun c15 => ?_) (fun c15 => ?_)
    · replace h := (if_pos c15).symm.trans h
      exact X_X6_search_b36 C h
    · replace h := (if_neg c15).symm.trans h
      refine x_aload_n C 0 dX6_search_18 rfl ?_
      refine x_iload C 4 dX6_search_19 rfl ?_
      obtain ⟨v21, hg21, h⟩ := ob h
      refine x_ci0 (x_runV C (As := [.int x5]) (rest := []) (c_X6_isFilter hg21) (cw_X6_search_X6_isFilter_152 C) 0 rfl rfl rfl (Nat.le_of_ble_eq_true rfl) dX6_search_21 ⟨Nat.zero_le _, Nat.zero_le _⟩) ?_
      refine x_if_eq C (t := 36) dX6_search_24 (by decide) (fun c24 => ?_) (fun c24 => ?_)
      · replace h := (if_pos c24).symm.trans h
        exact X_X6_search_b36 C h
      · replace h := (if_neg c24).symm.trans h
        refine x_iload C 5 dX6_search_27 rfl ?_
        refine x_if_lt C (t := 36) dX6_search_29 (by decide) (fun c29 => ?_) (fun c29 => ?_)
        · replace h := (if_pos c29).symm.trans h
          exact X_X6_search_b36 C h
        · replace h := (if_neg c29).symm.trans h
          refine x_iconst C (v := 1) dX6_search_32 (by decide) ?_
          refine x_goto C (t := 37) dX6_search_33 (by decide) ?_
          exact X_X6_search_b37 C h
def X6_search (S : St) (x1 x2 x3 x4 x5 x6 : Int32) : Option (Int32 × St) :=
  (X6_isHere S x1 x3).bind fun q3 => X6_search_b6 q3.2 x2 x3 x4 x5 x6 q3.1
set_option maxHeartbeats 4000000 in
set_option maxRecDepth 100000 in
theorem X_X6_search {p : Program} {l : Launch} {e : Env} {s : State} {m : MethodId} {args : Array Value} {below : List Frame} {meth : Method} {c : Code} {D : va_G} {cI cZ cJ : ClassId} {ad : Nat → Nat} {rest w0 : va_W} (C : XC p rm_X6_search s m args meth c cX6_search 11 (some .int) RX6 wsX6_search D (t3 cI cZ cJ)) {S : St} {x1 x2 x3 x4 x5 x6 : Int32} {r : Int32 × St} (h : X6_search S x1 x2 x3 x4 x5 x6 = some r) : XW p l e rm_X6_search s m args below meth c D w0 11 (MQ below (QI D (t3 cI cZ cJ) w0 (wM cI cZ ad r.2 rest) s.heap.size r.1) args s 0 0 (va_A w0 s.heap.size)) (wM cI cZ ad S rest) 0 0 0 [(0, .ref (ad 0)), (1, .int x1), (2, .int x2), (3, .int x3), (4, .int x4), (5, .int x5), (6, .int x6)] [] := by
  unfold X6_search at h
  refine x_aload_n C 0 dX6_search_0 rfl ?_
  refine x_iload_n C 1 dX6_search_1 rfl ?_
  refine x_iload_n C 3 dX6_search_2 rfl ?_
  obtain ⟨⟨v3, S3⟩, hg3, h⟩ := ob h
  refine x_ci0 (x_runV C (As := [.int x1, .int x3]) (rest := []) (c_X6_isHere hg3) (cw_X6_search_X6_isHere_127 C) 0 rfl rfl rfl (Nat.le_of_ble_eq_true rfl) dX6_search_3 ⟨Nat.zero_le _, Nat.zero_le _⟩) ?_
  refine x_locals (lv' := [(0, .ref (ad 0)), (2, .int x2), (3, .int x3), (4, .int x4), (5, .int x5), (6, .int x6)]) [0, 2, 3, 4, 5, 6] rfl ?_
  exact X_X6_search_b6 C h
set_option maxRecDepth 100000 in
theorem c_X6_search {l : Launch} {D : va_G} {cI cZ cJ : ClassId} {ad : Nat → Nat} {S : St} {rest : va_W} {x1 x2 x3 x4 x5 x6 : Int32} {r : Int32 × St} (h : X6_search S x1 x2 x3 x4 x5 x6 = some r) : ∀ sz, Met l yX6_search wsX6_search rm_X6_search (PC D (t3 cI cZ cJ) [.ref (ad 0), .int x1, .int x2, .int x3, .int x4, .int x5, .int x6] (wM cI cZ ad S rest) sz) (QI D (t3 cI cZ cJ) (wM cI cZ ad S rest) (wM cI cZ ad r.2 rest) sz r.1) 0 0 (va_A (wM cI cZ ad S rest) sz) := by
  refine x_met (Qc := fun sz => QI D (t3 cI cZ cJ) (wM cI cZ ad S rest) (wM cI cZ ad r.2 rest) sz r.1) RX6 rfl (by decide) rfl (Nat.le_of_ble_eq_true rfl) (fun p e s m args below meth c C => ?_)
  exact X_X6_search C h
