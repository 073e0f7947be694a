/-! THE LAW's START: what the Statement gives of it -/
theorem st_arr {s : State} {A : Array Value} {ty : FieldType} (h : (Cond.arrayClass ty).before A s = true) : ∃ cA : ClassId, ArrOfT s cA ty ∧ s.vm.findClass ("[" ++ ty.toString) = some cA := by
  obtain ⟨cA, kA, comp, h1, h2, h3⟩ := Cond.arrayClass_spec h
  exact ⟨cA, fun n z => ⟨fun k h => (by cases h), kA, h2, comp, h3⟩, h1⟩
theorem st_str {own tx : String} {k : Nat} {s : State} {A : Array Value} (h1 : (Cond.stringRef own k tx).before A s = true) (h2 : (Cond.exactly (.string own k) "java/lang/String").before A s = true) : ∃ sa, vk_R own k tx sa s := by
  obtain ⟨a, c, cA, kA, q1, q2⟩ := Cond.exactly_spec (args := A) (first := s) (o := none) (s := s) (idx := []) (t := .string own k) (cls := "java/lang/String") h2
  exact ⟨a, vk_R.of h1 q1⟩
theorem st_nwM : ∀ q ∈ nwM, Cond.methodLinkNest q.1 q.2.1 q.2.2.1 q.2.2.2 ∈ lw_tbl := by decide +kernel
theorem st_nwF : ∀ q ∈ nwF, Cond.fieldLinkNest q.1 q.2.1 q.2.2.1 q.2.2.2.1 q.2.2.2.2.1 q.2.2.2.2.2 ∈ lw_tbl := by decide +kernel
theorem st_NW {s : State} {A : Array Value} (hts : ∀ w ∈ lw_tbl, w.before A s = true) : NW s := ⟨fun q hq => va_Nw.of rfl (hts _ (st_nwM q hq)), fun q hq => va_Nw.of rfl (hts _ (st_nwF q hq))⟩
theorem st_cls {s : State} {A : Array Value} (hts : ∀ w ∈ lw_tbl, w.before A s = true) : ∃ (dC : Nat → ClassId) (dI : Nat → Nat → Nat), ∀ (k : Nat) (q : vw_C), vwCl[k]? = some q → u_Kn s q.1 q.2.1 q.2.2 (dC k) (dI k) := by
  obtain ⟨c0, i0, h0⟩ := u_known (C := RX0) (T := TX0) (N := 2) (n := 2) hts inX0 (hts (.instantiable RX0 2) (by decide +kernel))
  obtain ⟨c1, i1, h1⟩ := u_known (C := RX1) (T := TX1) (N := 5) (n := 5) hts inX1 (hts (.instantiable RX1 5) (by decide +kernel))
  obtain ⟨c2, i2, h2⟩ := u_known (C := RX2) (T := TX2) (N := 7) (n := 7) hts inX2 (hts (.instantiable RX2 7) (by decide +kernel))
  obtain ⟨c3, i3, h3⟩ := u_known (C := RX3) (T := TX3) (N := 2) (n := 2) hts inX3 (hts (.instantiable RX3 2) (by decide +kernel))
  obtain ⟨c4, i4, h4⟩ := u_known (C := RX4) (T := TX4) (N := 11) (n := 11) hts inX4 (hts (.instantiable RX4 11) (by decide +kernel))
  obtain ⟨c5, i5, h5⟩ := u_known (C := RX5) (T := TX5) (N := 6) (n := 6) hts inX5 (hts (.instantiable RX5 6) (by decide +kernel))
  obtain ⟨c6, i6, h6⟩ := u_known (C := RX6) (T := TX6) (N := 26) (n := 26) hts inX6 (hts (.instantiable RX6 26) (by decide +kernel))
  refine ⟨fun k => if k = 0 then c0 else if k = 1 then c1 else if k = 2 then c2 else if k = 3 then c3 else if k = 4 then c4 else if k = 5 then c5 else c6, fun k => if k = 0 then i0 else if k = 1 then i1 else if k = 2 then i2 else if k = 3 then i3 else if k = 4 then i4 else if k = 5 then i5 else i6, ?_⟩
  intro k q hq
  match k, hq with
  | 0, hq => cases hq; exact h0
  | 1, hq => cases hq; exact h1
  | 2, hq => cases hq; exact h2
  | 3, hq => cases hq; exact h3
  | 4, hq => cases hq; exact h4
  | 5, hq => cases hq; exact h5
  | 6, hq => cases hq; exact h6
  | k + 7, hq => simp [vwCl] at hq
theorem st_K {s : State} {A : Array Value} (hts : ∀ w ∈ lw_tbl, w.before A s = true) : ∃ (D : va_G) (cI cZ cJ : ClassId), va_K D vwCl (t3 cI cZ cJ) s := by
  obtain ⟨dC, dI, h⟩ := st_cls hts
  obtain ⟨cI, a1, a2⟩ := st_arr (hts (.arrayClass .int) (by decide +kernel))
  obtain ⟨cZ, b1, b2⟩ := st_arr (hts (.arrayClass .boolean) (by decide +kernel))
  obtain ⟨cJ, c1, c2⟩ := st_arr (hts (.arrayClass .long) (by decide +kernel))
  refine ⟨(dC, dI), cI, cZ, cJ, h, ?_⟩
  intro k q hq
  match k, hq with
  | 0, hq => cases hq; exact ⟨a1, a2⟩
  | 1, hq => cases hq; exact ⟨b1, b2⟩
  | 2, hq => cases hq; exact ⟨c1, c2⟩
  | k + 3, hq => simp [t3] at hq
def gvn : List Cond := flatC (Jvm.Cond.and given_1 narrow_1)
theorem st_NC {s : State} {A : Array Value} (hgv : ∀ w ∈ gvn, w.before A s = true) : NC s := by
  intro a b ha hb hab
  rcases (show (a = 0 ∧ b = 1) ∨ (a = 0 ∧ b = 2) ∨ (a = 1 ∧ b = 0) ∨ (a = 1 ∧ b = 2) ∨ (a = 2 ∧ b = 0) ∨ (a = 2 ∧ b = 1) by omega) with ⟨rfl, rfl⟩ | ⟨rfl, rfl⟩ | ⟨rfl, rfl⟩ | ⟨rfl, rfl⟩ | ⟨rfl, rfl⟩ | ⟨rfl, rfl⟩
  · exact va_Nc.of (hgv (.not (.castable "java/lang/IndexOutOfBoundsException" "java/lang/IllegalArgumentException")) (by decide +kernel))
  · exact va_Nc.of (hgv (.not (.castable "java/lang/IndexOutOfBoundsException" "java/lang/IllegalStateException")) (by decide +kernel))
  · exact va_Nc.of (hgv (.not (.castable "java/lang/IllegalArgumentException" "java/lang/IndexOutOfBoundsException")) (by decide +kernel))
  · exact va_Nc.of (hgv (.not (.castable "java/lang/IllegalArgumentException" "java/lang/IllegalStateException")) (by decide +kernel))
  · exact va_Nc.of (hgv (.not (.castable "java/lang/IllegalStateException" "java/lang/IndexOutOfBoundsException")) (by decide +kernel))
  · exact va_Nc.of (hgv (.not (.castable "java/lang/IllegalStateException" "java/lang/IllegalArgumentException")) (by decide +kernel))
theorem st_S {s : State} {A : Array Value} (hts : ∀ w ∈ lw_tbl, w.before A s = true) (hgv : ∀ w ∈ gvn, w.before A s = true) : ∀ q ∈ strL, ∃ sa, vk_R RX5 q.1 q.2 sa s :=
  List.forall_mem_cons.mpr ⟨st_str (hts (.stringRef RX5 63 "a change was made") (by decide +kernel)) (hgv (.exactly (.string RX5 63) "java/lang/String") (by decide +kernel)), List.forall_mem_cons.mpr ⟨st_str (hts (.stringRef RX5 102 "the class does not allow the attribute") (by decide +kernel)) (hgv (.exactly (.string RX5 102) "java/lang/String") (by decide +kernel)), List.forall_mem_cons.mpr ⟨st_str (hts (.stringRef RX5 114 "the parent is the entry or below it") (by decide +kernel)) (hgv (.exactly (.string RX5 114) "java/lang/String") (by decide +kernel)), List.forall_mem_cons.mpr ⟨st_str (hts (.stringRef RX5 124 "there is an entry below it") (by decide +kernel)) (hgv (.exactly (.string RX5 124) "java/lang/String") (by decide +kernel)), List.forall_mem_cons.mpr ⟨st_str (hts (.stringRef RX5 171 "place is below 0") (by decide +kernel)) (hgv (.exactly (.string RX5 171) "java/lang/String") (by decide +kernel)), List.forall_mem_cons.mpr ⟨st_str (hts (.stringRef RX5 195 "there is none of this number") (by decide +kernel)) (hgv (.exactly (.string RX5 195) "java/lang/String") (by decide +kernel)), List.forall_mem_cons.mpr ⟨st_str (hts (.stringRef RX5 197 "there is no such entry in the tree") (by decide +kernel)) (hgv (.exactly (.string RX5 197) "java/lang/String") (by decide +kernel)), List.forall_mem_cons.mpr ⟨st_str (hts (.stringRef RX5 201 "an argument is out of range") (by decide +kernel)) (hgv (.exactly (.string RX5 201) "java/lang/String") (by decide +kernel)), List.forall_mem_cons.mpr ⟨st_str (hts (.stringRef RX5 204 "there are 40 changes") (by decide +kernel)) (hgv (.exactly (.string RX5 204) "java/lang/String") (by decide +kernel)), List.forall_mem_cons.mpr ⟨st_str (hts (.stringRef RX5 206 "there are 20 filters") (by decide +kernel)) (hgv (.exactly (.string RX5 206) "java/lang/String") (by decide +kernel)), List.forall_mem_cons.mpr ⟨st_str (hts (.stringRef RX5 208 "the root and the lost one stay") (by decide +kernel)) (hgv (.exactly (.string RX5 208) "java/lang/String") (by decide +kernel)), List.forall_mem_cons.mpr ⟨st_str (hts (.stringRef RX5 210 "a label like it is there under the parent") (by decide +kernel)) (hgv (.exactly (.string RX5 210) "java/lang/String") (by decide +kernel)), fun _ h => absurd h List.not_mem_nil⟩⟩⟩⟩⟩⟩⟩⟩⟩⟩⟩⟩
theorem st_XS {s : State} {A : Array Value} (hts : ∀ w ∈ lw_tbl, w.before A s = true) (hgv : ∀ w ∈ gvn, w.before A s = true) : XS (va_A [] s.heap.size) s s.heap := by
  have hA : ∀ a : Nat, a < s.heap.size → ¬ va_A [] s.heap.size a := fun a ha h => by
    rcases h with ⟨k, e, h⟩ | h
    · cases h
    · omega
  refine ⟨vx_Zqof (hts (.laysStatic "java/lang/Throwable" "UNASSIGNED_STACK" "[Ljava/lang/StackTraceElement;") (by decide +kernel)) (hts (.initialized "java/lang/Throwable") (by decide +kernel)) (hgv (.isRef (.static "java/lang/Throwable" "UNASSIGNED_STACK" "[Ljava/lang/StackTraceElement;")) (by decide +kernel)) hA, vx_Zqof (hts (.laysStatic "java/lang/Throwable" "SUPPRESSED_SENTINEL" "Ljava/util/List;") (by decide +kernel)) (hts (.initialized "java/lang/Throwable") (by decide +kernel)) (hgv (.isRef (.static "java/lang/Throwable" "SUPPRESSED_SENTINEL" "Ljava/util/List;")) (by decide +kernel)) hA, st_S hts hgv, fun k => ?_, fun k => ?_⟩
  · match k with
    | 0 => exact va_Nw.of rfl (hts (.castable "java/lang/IndexOutOfBoundsException" "java/lang/IndexOutOfBoundsException") (by decide +kernel))
    | 1 => exact va_Nw.of rfl (hts (.castable "java/lang/IllegalArgumentException" "java/lang/IllegalArgumentException") (by decide +kernel))
    | k + 2 => exact va_Nw.of rfl (hts (.castable "java/lang/IllegalStateException" "java/lang/IllegalStateException") (by decide +kernel))
  · match k with
    | 0 => exact va_Nw.of rfl (hts (.declares (Bundle.initS "java/lang/RuntimeException")) (by decide +kernel))
    | 1 => exact va_Nw.of rfl (hts (.declares (Bundle.initS "java/lang/Exception")) (by decide +kernel))
    | k + 2 => exact va_Nw.of rfl (hts (.declares (Bundle.initS Bundle.tN)) (by decide +kernel))
theorem cwl_X5_init {p : Program} {s : State} {m : MethodId} {meth : Method} {c : Code} {D : va_G} {cI cZ cJ : ClassId} {b : Nat} (C : XC p room_1 s m #[Value.ref b] meth c cL_law 7 (some .boolean) RL wsL_law D (t3 cI cZ cJ)) (hts : ∀ w ∈ lw_tbl, w.before #[Value.ref b] s = true) : CallB room_1 s #[Value.ref b] RL 83 yX5_init cX5_init 1 none wsX5_init rm_X5_init 32 1284 0 ∧ yX5_init.name = "<init>" ∧ (Cond.instanceMethod yX5_init).before #[Value.ref b] s = true := cwI 0 C.2.2.2.2.1 gL_law_X5_init rfl rfl rfl (hts (.initialized RX5) (by decide +kernel)) (hts (.methodLink RL 83 yX5_init) (by decide +kernel)) (hts (.instanceMethod yX5_init) (by decide +kernel)) rfl (by decide +kernel) ⟨Nat.le_of_ble_eq_true rfl, Nat.le_of_ble_eq_true rfl⟩
theorem cwl_X6_init {p : Program} {s : State} {m : MethodId} {meth : Method} {c : Code} {D : va_G} {cI cZ cJ : ClassId} {b : Nat} (C : XC p room_1 s m #[Value.ref b] meth c cL_law 7 (some .boolean) RL wsL_law D (t3 cI cZ cJ)) (hts : ∀ w ∈ lw_tbl, w.before #[Value.ref b] s = true) : CallB room_1 s #[Value.ref b] RL 86 yX6_init cX6_init 2 none wsX6_init rm_X6_init 23 1244 0 ∧ yX6_init.name = "<init>" ∧ (Cond.instanceMethod yX6_init).before #[Value.ref b] s = true := cwI 0 C.2.2.2.2.1 gL_law_X6_init rfl rfl rfl (hts (.initialized RX6) (by decide +kernel)) (hts (.methodLink RL 86 yX6_init) (by decide +kernel)) (hts (.instanceMethod yX6_init) (by decide +kernel)) rfl (by decide +kernel) ⟨Nat.le_of_ble_eq_true rfl, Nat.le_of_ble_eq_true rfl⟩
theorem hil_X5 : ∀ z ∈ u_ws RX5 TX5 6, z ∈ wsL_law := inlX5
theorem hil_X6 : ∀ z ∈ u_ws RX6 TX6 26, z ∈ wsL_law := inlX6
def adL (u : Nat → Nat) (q1 : Nat) : Nat → Nat := fun z => ([u 11, u 17, u 16, u 15, u 14, u 13, u 12, u 18, u 24, u 23, u 22, u 21, u 20, u 19, u 4, u 5, u 6, u 7, u 8, u 9, u 10, u 1, u 2, u 3, u 25, u 26, u 27, u 28, u 29, u 30, u 31, u 32, q1] : List Nat).getD z 0
abbrev x5L (cI cZ : ClassId) (u : Nat → Nat) (q1 : Nat) (T1 T2 : St) (fc fr : Nat → Int32) : va_W := (((u 32), .inl (cI, 20, .inl (fun _ => 0))) :: ((u 31), .inl (cI, 20, .inl (fun _ => 0))) :: ((u 30), .inl (cI, 20, .inl (fun _ => 0))) :: ((u 29), .inl (cI, 20, .inl (fun _ => 0))) :: ((u 28), .inr (1, [.ref (u 29), .ref (u 30), .ref (u 31), .ref (u 32), .int 0])) :: ((u 27), .inl (cZ, 42, .inl (fun _ => 0))) :: ((u 26), .inl (cI, 126, .inl fr)) :: ((u 25), .inr (3, [.ref (u 26), .ref (u 27)])) :: ((u 18), .inr (4, [.int (T2 0 0), .ref (u 4), .ref (u 1), .ref (u 24), .int (T2 0 4), .ref (u 23), .ref (u 22), .ref (u 21), .ref (u 20), .ref (u 19), .int (T2 0 10)])) :: ((u 24), .inl (cI, 40, .inl (T2 1))) :: ((u 23), .inl (cZ, 42, .inl (T2 2))) :: ((u 22), .inl (cI, 42, .inl (T2 3))) :: ((u 21), .inl (cI, 42, .inl (T2 4))) :: ((u 20), .inl (cI, 42, .inl (T2 5))) :: ((u 19), .inl (cI, 168, .inl (T2 6))) :: ((u 11), .inr (4, [.int (T1 0 0), .ref (u 4), .ref (u 1), .ref (u 17), .int (T1 0 4), .ref (u 16), .ref (u 15), .ref (u 14), .ref (u 13), .ref (u 12), .int (T1 0 10)])) :: ((u 17), .inl (cI, 40, .inl (T1 1))) :: ((u 16), .inl (cZ, 42, .inl (T1 2))) :: ((u 15), .inl (cI, 42, .inl (T1 3))) :: ((u 14), .inl (cI, 42, .inl (T1 4))) :: ((u 13), .inl (cI, 42, .inl (T1 5))) :: ((u 12), .inl (cI, 168, .inl (T1 6))) :: ((u 10), .inl (cI, 40, .inl (fun _ => 0))) :: ((u 9), .inl (cI, 40, .inl (fun _ => 0))) :: ((u 8), .inl (cI, 40, .inl (fun _ => 0))) :: ((u 7), .inl (cI, 40, .inl (fun _ => 0))) :: ((u 6), .inl (cI, 40, .inl (fun _ => 0))) :: ((u 5), .inl (cI, 40, .inl (fun _ => 0))) :: ((u 4), .inr (2, [.ref (u 5), .ref (u 6), .ref (u 7), .ref (u 8), .ref (u 9), .ref (u 10), .int 0])) :: ((u 3), .inl (cI, 3, .inl fc)) :: ((u 2), .inl (cI, 3, .inl (fun _ => 0))) :: ((u 1), .inr (0, [.ref (u 2), .ref (u 3)])) :: (q1, .inr (5, [.ref (u 1), .ref (u 4), .ref (u 11), .ref (u 18), .ref (u 25), .ref (u 28)])) :: [])
set_option maxHeartbeats 4000000 in
set_option maxRecDepth 100000 in
theorem wl_start {D : va_G} {cI cZ cJ : ClassId} {u am : Nat → Nat} {q1 q3 : Nat} {T1 T2 r : St} {fc fr : Nat → Int32} {fo : Nat → Int64} : WL D (oc q3 cJ fo (wM cI cZ am r (x5L cI cZ u q1 T1 T2 fc fr))) (wE cI cZ (adL u q1) (sE T1 T2 fc fr) (eo (adL u q1) (adL u q1 0) (adL u q1 7) (oc q3 cJ fo (wM cI cZ am r [])))) := ⟨fun H h => h.sub [40, 41, 42, 43, 44, 45, 46, 33, 34, 35, 36, 37, 38, 39, 53, 52, 51, 50, 49, 48, 47, 56, 55, 54, 32, 31, 30, 29, 28, 27, 26, 25, 57, 0, 1, 2, 3, 4, 5, 6, 7, 8, 9, 10, 11, 12, 13, 14, 15, 16, 17, 18, 19, 20, 21, 22, 23, 24] rfl, fun A h => h.sub [40, 41, 42, 43, 44, 45, 46, 33, 34, 35, 36, 37, 38, 39, 53, 52, 51, 50, 49, 48, 47, 56, 55, 54, 32, 31, 30, 29, 28, 27, 26, 25, 57, 0, 1, 2, 3, 4, 5, 6, 7, 8, 9, 10, 11, 12, 13, 14, 15, 16, 17, 18, 19, 20, 21, 22, 23, 24] (by decide +kernel) rfl⟩
set_option maxHeartbeats 8000000 in
set_option maxRecDepth 100000 in
theorem law_walk0 {p : Program} {l : Launch} {e : Env} {s : State} {m : MethodId} {below : List Frame} {meth : Method} {c : Code} {D : va_G} {cI cZ cJ : ClassId} {b L : Nat} {xs : Nat → Int32} (C : XC p room_1 s m #[Value.ref b] meth c cL_law 7 (some .boolean) RL wsL_law D (t3 cI cZ cJ)) (hts : ∀ w ∈ lw_tbl, w.before #[Value.ref b] s = true) (G : LG s b L xs) (hfl : l.stackTraces = false) (hL : L ≤ 3584) : XW p l e room_1 s m #[Value.ref b] below meth c D [] 7 (lw_Z below #[Value.ref b] s) [] 0 0 0 [(0, .ref b)] [] := by
  obtain ⟨fc, e1, e2⟩ := fill_ok (N := 3) (f := fun _ => 0) (v := 15) (by decide)
  obtain ⟨fr, e3, e4⟩ := fill_ok (N := 126) (f := fun _ => 0) (v := -1) (by decide)
  obtain ⟨T1, e5, -⟩ := clear_ok (tz 0)
  obtain ⟨T2, e6, -⟩ := clear_ok (tz 1)
  obtain ⟨r, e7, e8, e9, e10⟩ := init_M
  have hI := init_INV e5 e6 e2 e4 e8 e9 e10
  refine x_new C (ci := 5) (N := 6) (fs := [.null, .null, .null, .null, .null, .null]) tyX5 tyX5_ok hil_X5 (R' := RX5) (T := TX5) (List.mem_of_getElem? (i := 0) (by decide +kernel)) (List.mem_of_getElem? (i := 1) (by decide +kernel)) (List.mem_of_getElem? (i := 2) (by decide +kernel)) rfl (fun x9 h9 => by rcases (show x9 = 0 ∨ x9 = 1 ∨ x9 = 2 ∨ x9 = 3 ∨ x9 = 4 ∨ x9 = 5 by omega) with rfl | rfl | rfl | rfl | rfl | rfl <;> rfl) (Nat.le_of_ble_eq_true rfl) (Nat.le_of_ble_eq_true rfl) dL_law_0 (fun q1 => ?_)
  refine x_dup C dL_law_3 rfl ?_
  refine x_cu (x_runI C (As := []) (rest := [.ref q1]) (c_X5_init (h0 := q1) e1 e5 e6 e3 (rest := [])) (cwl_X5_init C hts) rfl (Nat.le_of_ble_eq_true rfl) dL_law_4 ⟨Nat.le_of_ble_eq_true rfl, Nat.le_of_ble_eq_true rfl⟩) (fun u => ?_)
  refine x_astore_n C (lv' := [(0, .ref b), (1, .ref q1)]) dL_law_7 (by decide) rfl ?_
  refine x_new C (ci := 6) (N := 26) (fs := [.null, .null, .int 0, .null, .null, .null, .null, .null, .null, .null, .null, .null, .null, .null, .int 0, .null, .null, .null, .null, .null, .null, .null, .null, .null, .null, .int 0]) tyX6 tyX6_ok hil_X6 (R' := RX6) (T := TX6) (List.mem_of_getElem? (i := 3) (by decide +kernel)) (List.mem_of_getElem? (i := 4) (by decide +kernel)) (List.mem_of_getElem? (i := 5) (by decide +kernel)) rfl (fun x9 h9 => by rcases (show x9 = 0 ∨ x9 = 1 ∨ x9 = 2 ∨ x9 = 3 ∨ x9 = 4 ∨ x9 = 5 ∨ x9 = 6 ∨ x9 = 7 ∨ x9 = 8 ∨ x9 = 9 ∨ x9 = 10 ∨ x9 = 11 ∨ x9 = 12 ∨ x9 = 13 ∨ x9 = 14 ∨ x9 = 15 ∨ x9 = 16 ∨ x9 = 17 ∨ x9 = 18 ∨ x9 = 19 ∨ x9 = 20 ∨ x9 = 21 ∨ x9 = 22 ∨ x9 = 23 ∨ x9 = 24 ∨ x9 = 25 by omega) with rfl | rfl | rfl | rfl | rfl | rfl | rfl | rfl | rfl | rfl | rfl | rfl | rfl | rfl | rfl | rfl | rfl | rfl | rfl | rfl | rfl | rfl | rfl | rfl | rfl | rfl <;> rfl) (Nat.le_of_ble_eq_true rfl) (Nat.le_of_ble_eq_true rfl) dL_law_8 (fun q2 => ?_)
  refine x_dup C dL_law_11 rfl ?_
  refine x_cu (x_runI C (As := []) (rest := [.ref q2]) (c_X6_init (h0 := q2) e7 (rest := x5L cI cZ u q1 T1 T2 fc fr)) (cwl_X6_init C hts) rfl (Nat.le_of_ble_eq_true rfl) dL_law_12 ⟨Nat.le_of_ble_eq_true rfl, Nat.le_of_ble_eq_true rfl⟩) (fun u2 => ?_)
  refine x_astore_n C (lv' := [(0, .ref b), (1, .ref q1), (2, .ref q2)]) dL_law_15 (by decide) rfl ?_
  refine x_iconst C (v := 1) dL_law_16 (by decide) ?_
  refine x_newJ C (N := 1) (List.mem_of_getElem? (i := 6) (by decide +kernel)) (by decide) (by decide) (by decide) (Nat.le_of_ble_eq_true rfl) (Nat.le_of_ble_eq_true rfl) dL_law_17 (fun q3 => ?_)
  refine x_astore_n C (lv' := [(0, .ref b), (1, .ref q1), (2, .ref q2), (3, .ref q3)]) dL_law_19 (by decide) rfl ?_
  refine x_iconst C (v := 0) dL_law_20 (by decide) ?_
  refine x_istore C (lv' := [(0, .ref b), (1, .ref q1), (2, .ref q2), (3, .ref q3), (4, .int 0)]) dL_law_21 (by decide) rfl ?_
  refine x_world (w' := wE cI cZ (adL u q1) (sE T1 T2 fc fr) (eo (adL u q1) (adL u q1 0) (adL u q1 7) (oc q3 cJ (fun _ => 0) (wM cI cZ (fun z9 => bif Nat.beq z9 0 then q2 else u2 z9) r [])))) (wl_start (D := D)).1 ((wl_start (D := D)).2 _) ?_
  exact law_loop (ad := adL u q1) (am := fun z9 => bif Nat.beq z9 0 then q2 else u2 z9) C G hfl hL L 0 _ _ _ _ _ (by omega) (by omega) hI (Nat.le_of_ble_eq_true rfl) (Nat.le_of_ble_eq_true rfl)
