/-! PURE 18: isWhole, areAlike -/
theorem shr0_ok : ∀ x, x < 16 → ∀ a, a < 4 → (((nI x >>> (nI a &&& 31)) &&& 1 = 0) ↔ x.testBit a = false) := by decide +kernel
def gdW (N : Nat → Nat) (T : AT) (p j : Nat) : Bool := !(N (tIt T p)).testBit j || (tVa T (4 * p + j)).isSome
def gdA (N : Nat → Nat) (T : AT) (p : Nat) : Nat → Bool := fr (fun j a => a && gdW N T p j) true
theorem gdA_t {N : Nat → Nat} {T : AT} {p : Nat} : ∀ n, gdA N T p n = true ↔ ∀ j, j < n → gdW N T p j = true := by
  intro n
  induction n with
  | zero => exact ⟨fun _ j hj => absurd hj (Nat.not_lt_zero j), fun _ => rfl⟩
  | succ n ih =>
    show (gdA N T p n && gdW N T p n) = true ↔ _
    rw [Bool.and_eq_true, ih]
    refine ⟨fun q j hj => ?_, fun q => ⟨fun j hj => q j (by omega), q n (by omega)⟩⟩
    rcases Nat.lt_or_ge j n with z | z
    · exact q.1 j z
    · rw [show j = n by omega]; exact q.2
theorem some_oI {o : Option Nat} (ho : ∀ x, o = some x → x < 10) : (oI o = -1) ↔ o.isSome = false := by
  cases o with
  | none => exact ⟨fun _ => rfl, fun _ => rfl⟩
  | some k => exact ⟨fun q => absurd q (nI_nn (by have := ho k rfl; omega)), fun q => nomatch q⟩
theorem neg_oI {o : Option Nat} (ho : ∀ x, o = some x → x < 10) : (oI o < 0) ↔ o.isSome = false := by
  cases o with
  | none => exact ⟨fun _ => rfl, fun _ => by show (-1 : Int32) < 0; decide⟩
  | some k => exact ⟨fun q => absurd q (nI_pos (by have := ho k rfl; omega)), fun q => nomatch q⟩
theorem allNeeded_ok {S : St} {T : AT} {N A : Nat → Nat} {p : Nat} (hp : p < 42) (w4 : W4 T) (w5 : W5 T) (h5 : E5 S T) (h6 : E6 S T) (hA : RCL S 22 23 N A) : X4_hasAllNeeded S (nI p) = some (bI (gdA N T p 4)) := by
  have hi := w4 p
  unfold X4_hasAllNeeded
  rw [at_in hp (by decide), bs, h5 p hp]
  unfold X4_hasAllNeeded_L11
  have key := wl_find (f := fun a' : (Int32 × Int32 × Int32) => X4_hasAllNeeded_H11 S a'.1 a'.2.1 a'.2.2) (N := 4) (fun j => (nI p, nI (tIt T p), nI j)) (fun j => !gdW N T p j) (fun _ => (0 : Int32)) (r := 1) (by decide) (fun j hj => ?_) ?_
  · rcases key with ⟨k, hk, hP, _, h⟩ | ⟨hn, h⟩
    · have e : gdA N T p 4 = false := by
        cases hb : gdA N T p 4
        · rfl
        · rw [(gdA_t 4).mp hb k hk] at hP
          exact absurd hP (by decide)
      rw [e]
      exact h
    · have e : gdA N T p 4 = true := (gdA_t 4).mpr (fun j hj => by
        have := hn j hj
        cases hg : gdW N T p j
        · rw [hg] at this
          exact absurd this (by decide)
        · rfl)
      rw [e]
      exact h
  · show X4_hasAllNeeded_H11 S (nI p) (nI (tIt T p)) (nI j) = if (!gdW N T p j) = true then _ else _
    unfold X4_hasAllNeeded_H11 X4_hasAllNeeded_b40 X4_hasAllNeeded_b38
    rw [if_neg (ge4 hj), needs_ok (hA _ hi).1 (hA _ hi).2.1 hi hj, bs, nI_succ]
    unfold gdW
    cases hb : (N (tIt T p)).testBit j
    · rw [if_pos bit0, if_neg (by simp)]
    · rw [if_neg bit1, valueAt_ok hp hj h6, bs]
      by_cases q : oI (tVa T (4 * p + j)) = -1
      · rw [if_pos q, (some_oI (w5 _)).mp q, if_pos (by decide)]
        rfl
      · have e : (tVa T (4 * p + j)).isSome = true := by
          cases hs : (tVa T (4 * p + j)).isSome
          · exact absurd ((some_oI (w5 _)).mpr hs) q
          · rfl
        rw [if_neg q, e, if_neg (by decide)]
  · show X4_hasAllNeeded_H11 S (nI p) (nI (tIt T p)) (nI 4) = _
    unfold X4_hasAllNeeded_H11 X4_hasAllNeeded_b46
    rw [if_pos le4]
    rfl
/-- two trees alike -/
def EQK (T U : AT) (k : Nat) : Prop := tTh T k = tTh U k ∧ (tTh T k = true → (∀ w, w < 4 → tVa T (4 * k + w) = tVa U (4 * k + w)) ∧ paM T k = paM U k ∧ tLa T k = tLa U k ∧ tIt T k = tIt U k)
noncomputable def eqb (T U : AT) (k : Nat) : Bool := @decide (EQK T U k) (Classical.propDecidable _)
theorem eqb_t {T U : AT} {k : Nat} : eqb T U k = true ↔ EQK T U k := @decide_eq_true_iff _ (Classical.propDecidable _)
theorem oI_q {a b : Option Nat} {n : Nat} (hn : n < 1000) (ha : ∀ x, a = some x → x < n) (hb : ∀ x, b = some x → x < n) : (oI a = oI b) ↔ a = b := by
  rw [oI_inj (fun x q => by have := ha x q; omega) (fun x q => by have := hb x q; omega)]
theorem sameEntry_ok {S : St} {T U : AT} {p : Nat} (hp : p < 42) (w : WF T) (u : WF U) (h : RE S T) (g : RE (swS S) U) (ht : tTh T p = true) (hu : tTh U p = true) : (X4_hasSameEntry S (nI p) = some 1 ∧ EQK T U p) ∨ (X4_hasSameEntry S (nI p) = some 0 ∧ ¬ EQK T U p) := by
  unfold X4_hasSameEntry X4_hasSameEntry_L2
  have tail : ∃ r, X4_hasSameEntry_b30 S (nI p) = some r ∧ ((r = 1 ∧ paM T p = paM U p ∧ tLa T p = tLa U p ∧ tIt T p = tIt U p) ∨ (r = 0 ∧ ¬ (paM T p = paM U p ∧ tLa T p = tLa U p ∧ tIt T p = tIt U p))) := by
    unfold X4_hasSameEntry_b30 X4_hasSameEntry_b79 X4_hasSameEntry_b80
    have g5 : S 12 p = nI (tIt U p) := g.2.2.2.1 p hp
    rw [parentAt_ok h.2.1 hp, bs, parentAt_ok g.2.1 hp, bs, paI_th ht, paI_th hu]
    by_cases q1 : paM T p = paM U p
    · rw [if_pos q1, labelAt_ok h.2.2.1 hp, bs, labelAt_ok g.2.2.1 hp, bs]
      by_cases q2 : tLa T p = tLa U p
      · rw [if_pos ((oI_q (n := 100) (by decide) (w.2.2.2.1 p) (u.2.2.2.1 p)).mpr q2), at_in hp (by decide), bs, at_in hp (by decide), bs, h.2.2.2.1 p hp, g5]
        have a1 := w.2.2.2.2.1 p
        have a2 := u.2.2.2.2.1 p
        by_cases q3 : tIt T p = tIt U p
        · rw [if_pos (by rw [q3]), if_pos (by decide)]
          exact ⟨1, rfl, .inl ⟨rfl, q1, q2, q3⟩⟩
        · rw [if_neg (fun z => q3 ((nI_eq (by omega) (by omega)).mp z)), if_pos (by decide)]
          exact ⟨0, rfl, .inr ⟨rfl, fun z => q3 z.2.2⟩⟩
      · rw [if_neg (fun z => q2 ((oI_q (n := 100) (by decide) (w.2.2.2.1 p) (u.2.2.2.1 p)).mp z)), if_pos (by decide)]
        exact ⟨0, rfl, .inr ⟨rfl, fun z => q2 z.2.1⟩⟩
    · rw [if_neg q1, if_pos (by decide)]
      exact ⟨0, rfl, .inr ⟨rfl, fun z => q1 z.1⟩⟩
  obtain ⟨r, hr, hr2⟩ := tail
  have key := wl_find (f := fun a' : (Int32 × Int32) => X4_hasSameEntry_H2 S a'.1 a'.2) (N := 4) (fun j => (nI p, nI j)) (fun j => decide (¬ tVa T (4 * p + j) = tVa U (4 * p + j))) (fun _ => (0 : Int32)) (r := r) (by decide) (fun j hj => ?_) ?_
  · rcases key with ⟨k, hk, hP, _, e⟩ | ⟨hn, e⟩
    · exact .inr ⟨e, fun z => of_decide_eq_true hP ((z.2 ht).1 k hk)⟩
    · have all : ∀ x, x < 4 → tVa T (4 * p + x) = tVa U (4 * p + x) := fun x hx => Classical.not_not.mp (of_decide_eq_false (hn x hx))
      rcases hr2 with ⟨rfl, b⟩ | ⟨rfl, b⟩
      · exact .inl ⟨e, ht.trans hu.symm, fun _ => ⟨all, b⟩⟩
      · exact .inr ⟨e, fun z => b (z.2 ht).2⟩
  · show X4_hasSameEntry_H2 S (nI p) (nI j) = if decide (¬ tVa T (4 * p + j) = tVa U (4 * p + j)) = true then _ else _
    unfold X4_hasSameEntry_H2 X4_hasSameEntry_b22
    rw [if_neg (ge4 hj), valueAt_ok hp hj h.2.2.2.2, bs, valueAt_ok hp hj g.2.2.2.2, bs]
    by_cases q : tVa T (4 * p + j) = tVa U (4 * p + j)
    · rw [if_pos (by rw [q]), if_neg (show ¬ decide (¬ tVa T (4 * p + j) = tVa U (4 * p + j)) = true from fun z => (of_decide_eq_true z : ¬ tVa T (4 * p + j) = tVa U (4 * p + j)) q), nI_succ]
    · rw [if_neg (fun z => q ((oI_q (n := 10) (by decide) (w.2.2.2.2.2.1 _) (u.2.2.2.2.2.1 _)).mp z)), if_pos (decide_eq_true q)]
      rfl
  · show X4_hasSameEntry_H2 S (nI p) (nI 4) = _
    unfold X4_hasSameEntry_H2
    rw [if_pos le4, hr]
    rfl
theorem sameTrees_ok {S : St} {T U : AT} (w : WF T) (u : WF U) (h : RE S T) (g : RE (swS S) U) : (X4_isSameAs S = some 1 ∧ ∀ k, k < 42 → EQK T U k) ∨ (X4_isSameAs S = some 0 ∧ ∃ k, k < 42 ∧ ¬ EQK T U k) := by
  unfold X4_isSameAs X4_isSameAs_L2
  have key := wl_find (f := fun a' : Int32 => X4_isSameAs_H2 S a') (N := 42) (fun j => nI j) (fun j => !eqb T U j) (fun _ => (0 : Int32)) (r := 1) (by decide) (fun j hj => ?_) ?_
  · rcases key with ⟨k, hk, hP, _, e⟩ | ⟨hn, e⟩
    · exact .inr ⟨e, k, hk, fun z => by rw [eqb_t.mpr z] at hP; exact absurd hP (by decide)⟩
    · refine .inl ⟨e, fun k hk => eqb_t.mp ?_⟩
      have := hn k hk
      cases hb : eqb T U k
      · rw [hb] at this
        exact absurd this (by decide)
      · rfl
  · have g9 : S 9 j = bI (tTh U j) := g.1 j hj
    have pos : ¬ EQK T U j → (!eqb T U j) = true := fun z => by
      cases hb : eqb T U j
      · rfl
      · exact absurd (eqb_t.mp hb) z
    have neg : EQK T U j → ¬ (!eqb T U j) = true := fun z => by
      rw [eqb_t.mpr z]
      decide
    show X4_isSameAs_H2 S (nI j) = if (!eqb T U j) = true then some (Sum.inr 0) else some (Sum.inl (nI (j + 1)))
    unfold X4_isSameAs_H2 X4_isSameAs_b45 X4_isSameAs_b43 X4_isSameAs_b23
    rw [if_neg (ge42 hj), if_pos (in42 hj), if_pos (in42 hj), if_pos (in42 hj), cl42 hj, h.1 j hj, g9, nI_succ]
    cases ht : tTh T j
    · cases hu : tTh U j
      · rw [if_pos rfl, if_pos bit0, if_neg (neg ⟨ht.trans hu.symm, fun z => by rw [ht] at z; exact absurd z (by decide)⟩)]
      · rw [if_neg (by decide), if_pos (pos (fun z => by have := z.1; rw [ht, hu] at this; exact absurd this (by decide)))]
        rfl
    · cases hu : tTh U j
      · rw [if_neg (by decide), if_pos (pos (fun z => by have := z.1; rw [ht, hu] at this; exact absurd this (by decide)))]
        rfl
      · rw [if_pos rfl, if_neg bit1]
        rcases sameEntry_ok hj w u h g ht hu with ⟨e, z⟩ | ⟨e, z⟩
        · rw [e, bs, if_neg one0, if_neg (neg z)]
        · rw [e, bs, if_pos rfl, if_pos (pos z)]
          rfl
  · show X4_isSameAs_H2 S (nI 42) = _
    unfold X4_isSameAs_H2 X4_isSameAs_b51
    rw [if_pos le42]
    rfl
