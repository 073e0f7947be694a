/-! CLASS 8: the drawn runs: one change a step, at either master -/
theorem tTh_made {A : Nat → Nat} {lg : Nat → CH} {y : Nat} (hy : 2 ≤ y) : ∀ K : List Nat, ∀ L : List Nat, L = K.reverse → tTh (repl A lg L) y = true → ∃ c, c ∈ L ∧ cK (lg c) = 0 ∧ y = cX (lg c) := by
  intro K
  induction K with
  | nil =>
    intro L e h
    rw [e] at h
    have h2 : decide (y < 2) = true := h
    have := of_decide_eq_true h2
    omega
  | cons a t ih =>
    intro L e h
    rw [List.reverse_cons] at e
    rw [e, repl_snoc] at h
    rcases tTh_step h with q | ⟨q1, q2⟩
    · obtain ⟨c, c1, c2⟩ := ih t.reverse rfl q
      exact ⟨c, by rw [e]; exact List.mem_append_left _ c1, c2⟩
    · exact ⟨a, by rw [e]; exact List.mem_append_right _ (List.mem_singleton.mpr rfl), q1, q2⟩
def LI (k : Nat) (S : St) : Prop := ∃ (lg : Nat → CH) (tm mk bt : Nat → Nat) (L K : List Nat) (fk fa fb : Nat → Nat) (rg rf : Nat → Int32), IC 0 S k lg tm mk bt (fun _ => 0) (fun _ => 15) L K 0 fk fa fb rg rf
/-- what holds behind the change k, made at master m; g is not there at master 0 -/
def PO (k m g : Nat) (S : St) : Prop := LI (k + 1) S ∧ (∃ t, 1 ≤ t ∧ t < 1000 ∧ X5_timeOf S (nI k) = some (0, nI t)) ∧ X5_carry S (nI k) (nI m) = some (0, 0, S) ∧ (∃ (v : Int32) (S' : St), X5_carry S (nI k) (nI (1 - m)) = some (0, v, S') ∧ LI (k + 1) S') ∧ (g < 42 → RFS S (k + 1) 0 g)
theorem li_carry0 {k n : Nat} {S : St} (h : LI n S) (hk : k < n) : ∃ (v : Int32) (S' : St), X5_carry S (nI k) (nI 0) = some (0, v, S') ∧ LI n S' := by
  obtain ⟨lg, tm, mk, bt, L, K, fk, fa, fb, rg, rf, hI⟩ := h
  by_cases hc : k ∈ L
  · exact ⟨0, S, (tp0_carry hI.cnt hk hI.n40).trans (ic_carry_no hI hk hc), lg, tm, mk, bt, L, K, fk, fa, fb, rg, rf, hI⟩
  · obtain ⟨S1, e1, g1⟩ := ic_carry (m := 0) (by decide) hI hk hc rfl
    exact ⟨1, S1, (tp0_carry hI.cnt hk hI.n40).trans e1, _, _, _, _, _, _, _, _, _, _, _, g1⟩
theorem li_carry1 {k n : Nat} {S : St} (h : LI n S) (hk : k < n) : ∃ (v : Int32) (S' : St), X5_carry S (nI k) (nI 1) = some (0, v, S') ∧ LI n S' := by
  obtain ⟨lg, tm, mk, bt, L, K, fk, fa, fb, rg, rf, hI⟩ := h
  have hJ := hI.swap (m := 0) (by decide)
  by_cases hc : k ∈ K
  · refine ⟨0, S, ?_, lg, tm, mk, bt, L, K, fk, fa, fb, rg, rf, hI⟩
    rw [tp1_carry hI.cnt hk hI.n40, ic_carry_no hJ hk hc]
    show some ((0 : Nat), (0 : Int32), swS (swS S)) = _
    rw [swS_swS]
  · obtain ⟨S1, e1, g1⟩ := ic_carry (m := 1) (by decide) hJ hk hc rfl
    refine ⟨1, swS S1, ?_, _, _, _, _, _, _, _, _, _, _, _, g1.swap (m := 1) (by decide)⟩
    rw [tp1_carry hI.cnt hk hI.n40, e1]
    rfl
theorem po_of {k m g : Nat} {S : St} {lg : Nat → CH} {tm mk bt fk fa fb : Nat → Nat} {L K : List Nat} {rg rf : Nat → Int32} (hm : m < 2) (hI : IC 0 S (k + 1) lg tm mk bt (fun _ => 0) (fun _ => 15) L K 0 fk fa fb rg rf) (hown : m = 0 ∧ k ∈ L ∨ m = 1 ∧ k ∈ K) (ht : 1 ≤ tm k) (hg2 : 2 ≤ g) (hfr : ∀ c, c < k + 1 → cK (lg c) = 0 → g ≠ cX (lg c)) : PO k m g S := by
  have hLI : LI (k + 1) S := ⟨lg, tm, mk, bt, L, K, fk, fa, fb, rg, rf, hI⟩
  have hJ := hI.swap (m := 0) (by decide)
  have h40 := hI.n40
  have htm := (hI.1.1.2.1 k (by omega)).2.1
  refine ⟨hLI, ⟨tm k, ht, by omega, ic_timeOf hI (by omega)⟩, ?_, ?_, fun hg => RFS.of hI hg ?_⟩
  · rcases hown with ⟨rfl, hc⟩ | ⟨rfl, hc⟩
    · exact (tp0_carry hI.cnt (by omega) h40).trans (ic_carry_no hI (by omega) hc)
    · rw [tp1_carry hI.cnt (by omega) h40, ic_carry_no hJ (by omega) hc]
      show some ((0 : Nat), (0 : Int32), swS (swS S)) = _
      rw [swS_swS]
  · rcases hown with ⟨rfl, _⟩ | ⟨rfl, _⟩
    · exact li_carry1 hLI (by omega)
    · exact li_carry0 hLI (by omega)
  · cases hb : tTh (repl (fun _ => 15) lg L) g
    · rfl
    · obtain ⟨c, c1, c2, c3⟩ := tTh_made hg2 L.reverse L (List.reverse_reverse L).symm hb
      exact absurd c3 (hfr c ((hI.2.2.1.2.2.1.2 c).mp c1).1 c2)
theorem li_wc {k m : Nat} {S : St} {lg : Nat → CH} {tm mk bt N A fk fa fb : Nat → Nat} {L K : List Nat} {F : Nat} {rg rf : Nat → Int32} (hI : IC m S k lg tm mk bt N A L K F fk fa fb rg rf) {c : Nat} (hc : c < k) (h0 : cK (lg c) = 0) : cX (lg c) = c + 2 := ((hI.1.1.2.1 c hc).1.2.2.2.2.1 h0).1
theorem ffu {α : Type} {f : Nat → α} {k : Nat} {x : α} (P : α → Prop) (c : Nat) (h1 : c = k → P x) (h2 : c ≠ k → P (f c)) : P (fu f k x c) := by
  by_cases h : c = k
  · rw [h, fu_s]; exact h1 h
  · rw [fu_n h]; exact h2 h
theorem li_find {k m fr : Nat} {S : St} (h : LI k S) (hm : m < 2) (hfr : fr < 100) : (∃ z, z < 42 ∧ X5_find S (nI m) (nI 0) (nI fr) = some (0, nI z)) ∨ (X5_find S (nI m) (nI 0) (nI fr) = some (0, -1) ∧ ∀ i, i < 3 → k < 40 → ∃ S', X5_add S (nI m) (nI 0) (nI fr) (nI i) = some (0, nI (k + 2), S') ∧ PO k m (k + 3) S') := by
  obtain ⟨lg, tm, mk, bt, L, K, fk, fa, fb, rg, rf, hI⟩ := h
  have hJ := hI.swap (m := 0) (by decide)
  have gone : ∀ i c, c < k + 1 → cK (fu lg k (0, k + 2, 0, fr, i, none) c) = 0 → k + 3 ≠ cX (fu lg k (0, k + 2, 0, fr, i, none) c) := fun i c hc => ffu (fun d => cK d = 0 → k + 3 ≠ cX d) c (fun _ _ => (show k + 3 ≠ k + 2 by omega)) (fun hne h0 => by rw [li_wc hI (by omega) h0]; omega)
  have hm' : m = 0 ∨ m = 1 := by omega
  rcases hm' with rfl | rfl
  · obtain ⟨wf, _, _⟩ := hI.wf
    rcases ic_find_or hI (p := 0) (l := fr) (by decide) wf.1.1 hfr with ⟨z, z1, z2⟩ | ⟨z1, z2⟩
    · exact .inl ⟨z, z1, tp0_find.trans z2⟩
    · refine .inr ⟨tp0_find.trans z2, fun i hi hk => ?_⟩
      obtain ⟨S1, e1, g1⟩ := ic_add (m := 0) (p := 0) (l := fr) (i := i) (by decide) hI hk rfl (by decide) wf.1.1 hfr hi z1
      exact ⟨S1, tp0_add.trans e1, po_of (by decide) g1 (.inl ⟨rfl, List.mem_append_right _ (List.mem_singleton.mpr rfl)⟩) (by rw [fu_s]; omega) (by omega) (gone i)⟩
  · obtain ⟨wf, _, _⟩ := hJ.wf
    rcases ic_find_or hJ (p := 0) (l := fr) (by decide) wf.1.1 hfr with ⟨z, z1, z2⟩ | ⟨z1, z2⟩
    · exact .inl ⟨z, z1, tp1_find.trans z2⟩
    · refine .inr ⟨tp1_find.trans z2, fun i hi hk => ?_⟩
      obtain ⟨S1, e1, g1⟩ := ic_add (m := 1) (p := 0) (l := fr) (i := i) (by decide) hJ hk rfl (by decide) wf.1.1 hfr hi z1
      refine ⟨swS S1, ?_, po_of (by decide) (g1.swap (m := 1) (by decide)) (.inr ⟨rfl, List.mem_append_right _ (List.mem_singleton.mpr rfl)⟩) (by rw [fu_s]; omega) (by omega) (gone i)⟩
      rw [tp1_add, e1]
      rfl
theorem oI_nm {o : Option Nat} (h : ∀ q, o = some q → q < 10) : ¬ oI o < -1 := (oI_rng h).1
theorem li_set {k m e w v : Nat} {S : St} (h : LI k S) (hm : m < 2) (he : e < 2) (hw : w < 4) (hv : v < 10) (hk : k < 40) : ∃ (v0 : Int32) (S' : St), X5_set S (nI m) (nI e) (nI w) (nI v) = some (0, v0, S') ∧ ¬ v0 < -1 ∧ PO k m (k + 2) S' := by
  obtain ⟨lg, tm, mk, bt, L, K, fk, fa, fb, rg, rf, hI⟩ := h
  have hJ := hI.swap (m := 0) (by decide)
  have t15 : ∀ w, w < 4 → (15 : Nat).testBit w = true := by decide
  have gone : ∀ c, c < k + 1 → cK (fu lg k (1, e, 0, 0, w, some v) c) = 0 → k + 2 ≠ cX (fu lg k (1, e, 0, 0, w, some v) c) := fun c hc => ffu (fun d => cK d = 0 → k + 2 ≠ cX d) c (fun _ h0 => absurd (show (1 : Nat) = 0 from h0) (by decide)) (fun hne h0 => by rw [li_wc hI (by omega) h0]; omega)
  have ho : ∀ q, some v = some q → q < 10 := fun q hq => by rw [← Option.some.inj hq]; exact hv
  have th : ∀ T : AT, W0 T → tTh T e = true := fun T w0 => by
    have : e = 0 ∨ e = 1 := by omega
    rcases this with rfl | rfl
    · exact w0.1
    · exact w0.2.1
  have hm' : m = 0 ∨ m = 1 := by omega
  rcases hm' with rfl | rfl
  · obtain ⟨wf, _, _⟩ := hI.wf
    obtain ⟨S1, e1, g1⟩ := ic_set (m := 0) (p := e) (w := w) (o := some v) (by decide) hI hk rfl (by omega) (th _ wf.1) hw ho (t15 w hw)
    exact ⟨_, S1, tp0_set.trans e1, oI_nm (fun q hq => wf.2.2.2.2.2.1 _ q hq), po_of (by decide) g1 (.inl ⟨rfl, List.mem_append_right _ (List.mem_singleton.mpr rfl)⟩) (by rw [fu_s]; omega) (by omega) gone⟩
  · obtain ⟨wf, _, _⟩ := hJ.wf
    obtain ⟨S1, e1, g1⟩ := ic_set (m := 1) (p := e) (w := w) (o := some v) (by decide) hJ hk rfl (by omega) (th _ wf.1) hw ho (t15 w hw)
    refine ⟨oI (tVa (repl (fun _ => 15) lg K) (4 * e + w)), swS S1, ?_, oI_nm (fun q hq => wf.2.2.2.2.2.1 _ q hq), po_of (by decide) (g1.swap (m := 1) (by decide)) (.inr ⟨rfl, List.mem_append_right _ (List.mem_singleton.mpr rfl)⟩) (by rw [fu_s]; omega) (by omega) gone⟩
    rw [show nI v = oI (some v) from rfl, tp1_set, e1]
    rfl
theorem li_full_add {S : St} (h : LI 40 S) : X5_add S (nI 0) (nI 0) (nI 48) (nI 0) = some (3, 0, S) := by
  obtain ⟨lg, tm, mk, bt, L, K, fk, fa, fb, rg, rf, hI⟩ := h
  obtain ⟨wf, _, _⟩ := hI.wf
  exact tp0_add.trans (ic_add_full hI rfl (by decide) wf.1.1 (by decide) (by decide))
theorem li_full_set {S : St} (h : LI 40 S) : X5_set S (nI 0) (nI 0) (nI 0) (nI 0) = some (3, 0, S) := by
  obtain ⟨lg, tm, mk, bt, L, K, fk, fa, fb, rg, rf, hI⟩ := h
  obtain ⟨wf, _, _⟩ := hI.wf
  exact tp0_set.trans (ic_set_full (o := some 0) hI rfl (by decide) wf.1.1 (by decide) (fun q hq => by rw [← Option.some.inj hq]; decide))
theorem li_changes {n : Nat} {S : St} (h : LI n S) : X5_changes S = some (nI n) := by
  obtain ⟨lg, tm, mk, bt, L, K, fk, fa, fb, rg, rf, hI⟩ := h
  exact ic_changes hI
theorem li_start {S : St} (h : CS S vv0) : LI 0 S := ⟨_, _, _, _, _, _, _, _, _, _, _, h⟩
theorem ush_nat (x : Int32) : ∃ q, q < 16777216 ∧ (x.toUInt32 >>> ((8 : Int32).toUInt32 &&& Int32.toUInt32 31)).toInt32 = nI q := by
  have h := pk_ushr x 8 8 (by decide)
  refine ⟨x.toBitVec.toNat / 2 ^ 8, ?_, ?_⟩
  · have := x.toBitVec.isLt
    omega
  · apply Int32.toBitVec_inj.mp
    apply BitVec.eq_of_toNat_eq
    rw [h]
    have := x.toBitVec.isLt
    show _ = (BitVec.ofNat 32 (x.toBitVec.toNat / 2 ^ 8)).toNat
    rw [BitVec.toNat_ofNat, Nat.mod_eq_of_lt (by omega)]
