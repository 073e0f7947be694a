/-! THE LAW's START: what the Statement gives of it -/
theorem st_arr {s : State} {A : Array Value} {ty : FieldType} (h : (Cond.arrayClass ty).before A s = true) : ∃ cA : ClassId, ArrOfT s cA ty ∧ s.vm.findClass ("[" ++ ty.toString) = some cA := by
  obtain ⟨cA, kA, comp, h1, h2, h3⟩ := Cond.arrayClass_spec h
  exact ⟨cA, fun n z => ⟨fun k h => (by cases h), kA, h2, comp, h3⟩, h1⟩
theorem st_str {own tx : String} {k : Nat} {s : State} {A : Array Value} (h1 : (Cond.stringRef own k tx).before A s = true) (h2 : (Cond.exactly (.string own k) "java/lang/String").before A s = true) : ∃ sa, vk_R own k tx sa s := by
  obtain ⟨a, c, cA, kA, q1, q2⟩ := Cond.exactly_spec (args := A) (first := s) (o := none) (s := s) (idx := []) (t := .string own k) (cls := "java/lang/String") h2
  exact ⟨a, vk_R.of h1 q1⟩
theorem st_nwM : ∀ q ∈ nwM, Cond.methodLinkNest q.1 q.2.1 q.2.2.1 q.2.2.2 ∈ lw_tbl := by decide +kernel
theorem st_nwF : ∀ q ∈ nwF, Cond.fieldLinkNest q.1 q.2.1 q.2.2.1 q.2.2.2.1 q.2.2.2.2.1 q.2.2.2.2.2 ∈ lw_tbl := by decide +kernel
theorem st_NW {s : State} {A : Array Value} (hts : ∀ w ∈ lw_tbl, w.before A s = true) : NW s := ⟨fun q hq => va_Nw.of rfl (hts _ (st_nwM q hq)), fun q hq => va_Nw.of rfl (hts _ (st_nwF q hq))⟩
theorem st_cls {s : State} {A : Array Value} (hts : ∀ w ∈ lw_tbl, w.before A s = true) : ∃ (dC : Nat → ClassId) (dI : Nat → Nat → Nat), ∀ (k : Nat) (q : vw_C), vwCl[k]? = some q → u_Kn s q.1 q.2.1 q.2.2 (dC k) (dI k) := by
  obtain ⟨c0, i0, h0⟩ := u_known (C := RX0) (T := TX0) (N := 2) (n := 2) hts inX0 (hts (.instantiable RX0 2) (by decide +kernel))
  obtain ⟨c1, i1, h1⟩ := u_known (C := RX1) (T := TX1) (N := 5) (n := 5) hts inX1 (hts (.instantiable RX1 5) (by decide +kernel))
  obtain ⟨c2, i2, h2⟩ := u_known (C := RX2) (T := TX2) (N := 7) (n := 7) hts inX2 (hts (.instantiable RX2 7) (by decide +kernel))
  obtain ⟨c3, i3, h3⟩ := u_known (C := RX3) (T := TX3) (N := 2) (n := 2) hts inX3 (hts (.instantiable RX3 2) (by decide +kernel))
  obtain ⟨c4, i4, h4⟩ := u_known (C := RX4) (T := TX4) (N := 11) (n := 11) hts inX4 (hts (.instantiable RX4 11) (by decide +kernel))
  obtain ⟨c5, i5, h5⟩ := u_known (C := RX5) (T := TX5) (N := 6) (n := 6) hts inX5 (hts (.instantiable RX5 6) (by decide +kernel))
  refine ⟨fun k => if k = 0 then c0 else if k = 1 then c1 else if k = 2 then c2 else if k = 3 then c3 else if k = 4 then c4 else c5, fun k => if k = 0 then i0 else if k = 1 then i1 else if k = 2 then i2 else if k = 3 then i3 else if k = 4 then i4 else i5, ?_⟩
  intro k q hq
  match k, hq with
  | 0, hq => cases hq; exact h0
  | 1, hq => cases hq; exact h1
  | 2, hq => cases hq; exact h2
  | 3, hq => cases hq; exact h3
  | 4, hq => cases hq; exact h4
  | 5, hq => cases hq; exact h5
  | k + 6, hq => simp [vwCl] at hq
theorem st_K {s : State} {A : Array Value} (hts : ∀ w ∈ lw_tbl, w.before A s = true) : ∃ (D : va_G) (cI cZ : ClassId), va_K D vwCl (t3 cI cZ cI) s := by
  obtain ⟨dC, dI, h⟩ := st_cls hts
  obtain ⟨cI, a1, a2⟩ := st_arr (hts (.arrayClass .int) (by decide +kernel))
  obtain ⟨cZ, b1, b2⟩ := st_arr (hts (.arrayClass .boolean) (by decide +kernel))
  refine ⟨(dC, dI), cI, cZ, h, ?_⟩
  intro k q hq
  match k, hq with
  | 0, hq => cases hq; exact ⟨a1, a2⟩
  | 1, hq => cases hq; exact ⟨b1, b2⟩
  | k + 2, hq => simp [t3] at hq
def gvn : List Cond := flatC (Jvm.Cond.and given_1 narrow_1)
theorem st_NC {s : State} {A : Array Value} (hgv : ∀ w ∈ gvn, w.before A s = true) : NC s := by
  intro a b ha hb hab
  rcases (show (a = 0 ∧ b = 1) ∨ (a = 0 ∧ b = 2) ∨ (a = 1 ∧ b = 0) ∨ (a = 1 ∧ b = 2) ∨ (a = 2 ∧ b = 0) ∨ (a = 2 ∧ b = 1) by omega) with ⟨rfl, rfl⟩ | ⟨rfl, rfl⟩ | ⟨rfl, rfl⟩ | ⟨rfl, rfl⟩ | ⟨rfl, rfl⟩ | ⟨rfl, rfl⟩
  · exact va_Nc.of (hgv (.not (.castable "java/lang/IndexOutOfBoundsException" "java/lang/IllegalArgumentException")) (by decide +kernel))
  · exact va_Nc.of (hgv (.not (.castable "java/lang/IndexOutOfBoundsException" "java/lang/IllegalStateException")) (by decide +kernel))
  · exact va_Nc.of (hgv (.not (.castable "java/lang/IllegalArgumentException" "java/lang/IndexOutOfBoundsException")) (by decide +kernel))
  · exact va_Nc.of (hgv (.not (.castable "java/lang/IllegalArgumentException" "java/lang/IllegalStateException")) (by decide +kernel))
  · exact va_Nc.of (hgv (.not (.castable "java/lang/IllegalStateException" "java/lang/IndexOutOfBoundsException")) (by decide +kernel))
  · exact va_Nc.of (hgv (.not (.castable "java/lang/IllegalStateException" "java/lang/IllegalArgumentException")) (by decide +kernel))
theorem st_S {s : State} {A : Array Value} (hts : ∀ w ∈ lw_tbl, w.before A s = true) (hgv : ∀ w ∈ gvn, w.before A s = true) : ∀ q ∈ strL, ∃ sa, vk_R RX5 q.1 q.2 sa s :=
  List.forall_mem_cons.mpr ⟨st_str (hts (.stringRef RX5 63 "a change was made") (by decide +kernel)) (hgv (.exactly (.string RX5 63) "java/lang/String") (by decide +kernel)), List.forall_mem_cons.mpr ⟨st_str (hts (.stringRef RX5 102 "the class does not allow the attribute") (by decide +kernel)) (hgv (.exactly (.string RX5 102) "java/lang/String") (by decide +kernel)), List.forall_mem_cons.mpr ⟨st_str (hts (.stringRef RX5 114 "the parent is the entry or below it") (by decide +kernel)) (hgv (.exactly (.string RX5 114) "java/lang/String") (by decide +kernel)), List.forall_mem_cons.mpr ⟨st_str (hts (.stringRef RX5 124 "there is an entry below it") (by decide +kernel)) (hgv (.exactly (.string RX5 124) "java/lang/String") (by decide +kernel)), List.forall_mem_cons.mpr ⟨st_str (hts (.stringRef RX5 171 "place is below 0") (by decide +kernel)) (hgv (.exactly (.string RX5 171) "java/lang/String") (by decide +kernel)), List.forall_mem_cons.mpr ⟨st_str (hts (.stringRef RX5 195 "there is none of this number") (by decide +kernel)) (hgv (.exactly (.string RX5 195) "java/lang/String") (by decide +kernel)), List.forall_mem_cons.mpr ⟨st_str (hts (.stringRef RX5 197 "there is no such entry in the tree") (by decide +kernel)) (hgv (.exactly (.string RX5 197) "java/lang/String") (by decide +kernel)), List.forall_mem_cons.mpr ⟨st_str (hts (.stringRef RX5 201 "an argument is out of range") (by decide +kernel)) (hgv (.exactly (.string RX5 201) "java/lang/String") (by decide +kernel)), List.forall_mem_cons.mpr ⟨st_str (hts (.stringRef RX5 204 "there are 40 changes") (by decide +kernel)) (hgv (.exactly (.string RX5 204) "java/lang/String") (by decide +kernel)), List.forall_mem_cons.mpr ⟨st_str (hts (.stringRef RX5 206 "there are 20 filters") (by decide +kernel)) (hgv (.exactly (.string RX5 206) "java/lang/String") (by decide +kernel)), List.forall_mem_cons.mpr ⟨st_str (hts (.stringRef RX5 208 "the root and the lost one stay") (by decide +kernel)) (hgv (.exactly (.string RX5 208) "java/lang/String") (by decide +kernel)), List.forall_mem_cons.mpr ⟨st_str (hts (.stringRef RX5 210 "a label like it is there under the parent") (by decide +kernel)) (hgv (.exactly (.string RX5 210) "java/lang/String") (by decide +kernel)), fun _ h => absurd h List.not_mem_nil⟩⟩⟩⟩⟩⟩⟩⟩⟩⟩⟩⟩
theorem st_XS {s : State} {A : Array Value} (hts : ∀ w ∈ lw_tbl, w.before A s = true) (hgv : ∀ w ∈ gvn, w.before A s = true) : XS (va_A [] s.heap.size) s s.heap := by
  have hA : ∀ a : Nat, a < s.heap.size → ¬ va_A [] s.heap.size a := fun a ha h => by
    rcases h with ⟨k, e, h⟩ | h
    · cases h
    · omega
  refine ⟨vx_Zqof (hts (.laysStatic "java/lang/Throwable" "UNASSIGNED_STACK" "[Ljava/lang/StackTraceElement;") (by decide +kernel)) (hts (.initialized "java/lang/Throwable") (by decide +kernel)) (hgv (.isRef (.static "java/lang/Throwable" "UNASSIGNED_STACK" "[Ljava/lang/StackTraceElement;")) (by decide +kernel)) hA, vx_Zqof (hts (.laysStatic "java/lang/Throwable" "SUPPRESSED_SENTINEL" "Ljava/util/List;") (by decide +kernel)) (hts (.initialized "java/lang/Throwable") (by decide +kernel)) (hgv (.isRef (.static "java/lang/Throwable" "SUPPRESSED_SENTINEL" "Ljava/util/List;")) (by decide +kernel)) hA, st_S hts hgv, fun k => ?_, fun k => ?_⟩
  · match k with
    | 0 => exact va_Nw.of rfl (hts (.castable "java/lang/IndexOutOfBoundsException" "java/lang/IndexOutOfBoundsException") (by decide +kernel))
    | 1 => exact va_Nw.of rfl (hts (.castable "java/lang/IllegalArgumentException" "java/lang/IllegalArgumentException") (by decide +kernel))
    | k + 2 => exact va_Nw.of rfl (hts (.castable "java/lang/IllegalStateException" "java/lang/IllegalStateException") (by decide +kernel))
  · match k with
    | 0 => exact va_Nw.of rfl (hts (.declares (Bundle.initS "java/lang/RuntimeException")) (by decide +kernel))
    | 1 => exact va_Nw.of rfl (hts (.declares (Bundle.initS "java/lang/Exception")) (by decide +kernel))
    | k + 2 => exact va_Nw.of rfl (hts (.declares (Bundle.initS Bundle.tN)) (by decide +kernel))
set_option maxHeartbeats 4000000 in
set_option maxRecDepth 100000 in
theorem law_walk0 {p : Program} {l : Launch} {e : Env} {s : State} {m : MethodId} {below : List Frame} {meth : Method} {c : Code} {D : va_G} {cI cZ cJ : ClassId} {b L : Nat} {xs : Nat → Int32} (C : XC p room_1 s m #[Value.ref b] meth c cL_law 7 (some .boolean) RL wsL_law D (t3 cI cZ cJ)) (G : LG s b L xs) (hfl : l.stackTraces = false) (hL : L ≤ 260) : XW p l e room_1 s m #[Value.ref b] below meth c D [] 7 (lw_Z below #[Value.ref b] s) [] 0 0 0 [(0, .ref b)] [] := by
  obtain ⟨fc, e1, e2⟩ := fill_ok (N := 3) (f := fun _ => 0) (v := 15) (by decide)
  obtain ⟨fr, e3, e4⟩ := fill_ok (N := 126) (f := fun _ => 0) (v := -1) (by decide)
  obtain ⟨T1, e5, -⟩ := clear_ok (tz 0)
  obtain ⟨T2, e6, -⟩ := clear_ok (tz 1)
  have h0 := init_CS e5 e6 e2 e4
  refine x_ci (mc := 939) (ms := 6726) (x_runSY C G.2.2.1 G.2.2.2 (As := []) (rest := []) (c_L_masters hfl) (cwl_L_masters C) rfl (Nat.le_of_ble_eq_true rfl) dL_law_0 ⟨by show _ ≤ 622635; omega, by show _ ≤ 7233866; omega⟩) ?_
  refine x_if_eq C (t := 12) dL_law_3 (by decide) (fun c9 => absurd c9 (by decide)) (fun _ => ?_)
  refine x_ci (mc := 487) (ms := 4014) (x_runSY C G.2.2.1 G.2.2.2 (As := []) (rest := []) (c_L_searches hfl) (cwl_L_searches C) rfl (Nat.le_of_ble_eq_true rfl) dL_law_6 ⟨by show _ ≤ 622635; omega, by show _ ≤ 7233866; omega⟩) ?_
  refine x_if_ne C (t := 14) dL_law_9 (by decide) (fun _ => ?_) (fun c9 => absurd c9 (by decide))
  refine x_new C (ci := 5) (N := 6) (fs := [.null, .null, .null, .null, .null, .null]) tyX5 tyX5_ok inlX5 (R' := RX5) (T := TX5) (by decide +kernel) (by decide +kernel) (by decide +kernel) rfl (fun x9 h9 => by rcases (show x9 = 0 ∨ x9 = 1 ∨ x9 = 2 ∨ x9 = 3 ∨ x9 = 4 ∨ x9 = 5 by omega) with rfl | rfl | rfl | rfl | rfl | rfl <;> rfl) (by show _ ≤ 622635; omega) (by show _ ≤ 7233866; omega) dL_law_14 (fun q1 => ?_)
  refine x_dup C dL_law_17 rfl ?_
  refine x_cu (x_runI C (As := []) (rest := [.ref q1]) (c_X5_init (h0 := q1) e1 e5 e6 e3 (rest := [])) (cwl_X5_init C) rfl (Nat.le_of_ble_eq_true rfl) dL_law_18 ⟨by show _ ≤ 622635; omega, by show _ ≤ 7233866; omega⟩) (fun u => ?_)
  refine x_astore_n C (lv' := [(0, .ref b), (1, .ref q1)]) dL_law_21 (by decide) rfl ?_
  refine x_iconst C (v := nI 0) dL_law_22 (by decide) ?_
  refine x_istore_n C (lv' := [(0, .ref b), (1, .ref q1), (2, .int (nI 0))]) dL_law_23 (by decide) rfl ?_
  refine x_world (w' := wE cI cZ (adL u q1) (sE T1 T2 fc fr) (eo (adL u q1) (adL u q1 0) (adL u q1 7) [])) (wl_start (D := D) (cI := cI) (cZ := cZ)).1 ((wl_start (D := D) (cI := cI) (cZ := cZ)).2 _) ?_
  exact law_loop (ad := adL u q1) C G hfl hL 40 0 _ _ _ rfl (li_start h0) (by omega) (by omega)
/-! THE CLAIM -/
theorem whole_start {p : Program} {e : Env} {s : State} {m : MethodId} {below : List Frame} {meth : Method} {c : Code} (l : Launch) (hflags : l.flags = flags0) {b L : Nat} {xs : Nat → Int32} (hL : L ≤ 260) (C0 : lw_At p s m meth c b L xs) : W p l e room_1 s m #[Value.ref b] below meth c s.heap [] 0 0 (lw_Z below #[Value.ref b] s) (entryFrame m ([Value.ref b] : List Value).toArray 7) := by
  obtain ⟨hx, hb, hr, hml, hown, hts, hX, hbl, hlocks, hgv⟩ := id C0
  obtain ⟨D, cI, cZ, hK⟩ := st_K hts
  have hg : ∀ w ∈ gvn, w.before #[Value.ref b] s = true := flat_of_before _ hgv
  have C : XC p room_1 s m #[Value.ref b] meth c cL_law 7 (some .boolean) RL wsL_law D (t3 cI cZ cI) := ⟨hx, hb, hml, hown, fun w hw => hts w (wsL_law_in w hw), hK, st_NW hts, hr, hlocks⟩
  have G : LG s b L xs := ⟨hX, hbl, st_XS hts hg, st_NC hg⟩
  have hfl : l.stackTraces = false := by
    unfold Launch.stackTraces
    rw [hflags]
    decide
  have hP : va_P D vwCl [] s.heap := fun k q h => (by cases h)
  have hD : va_D (va_A [] s.heap.size) [] := ⟨fun i j p q h => (by cases h), fun k q h => (by cases h)⟩
  have hl := lv_entry ([.ref b]) (n := 7) (Nat.le_of_ble_eq_true rfl)
  rw [lg_entry_eq]
  generalize (lg_sl ([.ref b]) ++ List.replicate (7 - (lg_sl ([.ref b])).length) Slot.unset).toArray = ls at hl ⊢
  exact law_walk0 C G hfl hL s.heap [] ls hP hD va_S.rf hl
