/-! PURE 21: rights that count, children in order -/
def mnA (ok : Nat → Bool) (st : Nat → Nat) : Nat → Option Nat := fr (fun j a => if ok j = true then (match a with | none => some j | some b => if st b ≤ st j then some b else some j) else a) none
theorem mnA_sp {ok : Nat → Bool} {st : Nat → Nat} : ∀ j, (mnA ok st j = none ∧ ∀ i, i < j → ok i = false) ∨ ∃ b, mnA ok st j = some b ∧ b < j ∧ ok b = true ∧ ∀ i, i < j → ok i = true → st b ≤ st i := by
  intro j
  induction j with
  | zero => exact .inl ⟨rfl, fun i hi => absurd hi (Nat.not_lt_zero i)⟩
  | succ j ih =>
    have e : mnA ok st (j + 1) = if ok j = true then (match mnA ok st j with | none => some j | some b => if st b ≤ st j then some b else some j) else mnA ok st j := rfl
    rw [e]
    by_cases h : ok j = true
    · rw [if_pos h]
      right
      rcases ih with ⟨h1, h2⟩ | ⟨b, h1, h2, h3, h4⟩
      · rw [h1]
        refine ⟨j, rfl, Nat.lt_succ_self j, h, fun i hi hel => ?_⟩
        rcases Nat.lt_or_ge i j with q | q
        · rw [h2 i q] at hel
          exact absurd hel (by decide)
        · rw [show i = j by omega]
          exact Nat.le_refl _
      · rw [h1]
        by_cases hb : st b ≤ st j
        · refine ⟨b, if_pos hb, by omega, h3, fun i hi hel => ?_⟩
          rcases Nat.lt_or_ge i j with q | q
          · exact h4 i q hel
          · rw [show i = j by omega]; exact hb
        · refine ⟨j, if_neg hb, Nat.lt_succ_self j, h, fun i hi hel => ?_⟩
          rcases Nat.lt_or_ge i j with q | q
          · have := h4 i q hel
            omega
          · rw [show i = j by omega]
            exact Nat.le_refl _
    · rw [if_neg h]
      rcases ih with ⟨h1, h2⟩ | ⟨b, h1, h2, h3, h4⟩
      · refine .inl ⟨h1, fun i hi => ?_⟩
        rcases Nat.lt_or_ge i j with q | q
        · exact h2 i q
        · rw [show i = j by omega]
          exact Bool.not_eq_true _ ▸ h
      · refine .inr ⟨b, h1, by omega, h3, fun i hi hel => ?_⟩
        rcases Nat.lt_or_ge i j with q | q
        · exact h4 i q hel
        · rw [show i = j by omega] at hel
          exact absurd hel h
def ordQ (T : AT) (k : Nat) : Nat := match tLa T k with
  | none => 100 + k
  | some l => l
theorem ordQ_lt {T : AT} {k : Nat} (w3 : W3 T) (hk : k < 42) : ordQ T k < 142 := by
  unfold ordQ
  cases h : tLa T k with
  | none => show 100 + k < 142; omega
  | some l => have := w3 k l h; show l < 142; omega
theorem order_ok {S : St} {T : AT} {k : Nat} (h4 : E4 S T) (w3 : W3 T) (hk : k < 42) : X4_orderUnderParent S (nI k) = some (nI (ordQ T k)) := by
  unfold X4_orderUnderParent X4_orderUnderParent_b19 ordQ
  rw [labelAt_ok h4 hk, bs]
  cases h : tLa T k with
  | none =>
    rw [if_pos (show oI none = -1 from rfl), show (100 : Int32) = nI 100 from rfl, nI_add]
  | some l =>
    have := w3 k l h
    rw [if_neg (show ¬ oI (some l) = -1 from nI_nn (by omega))]
    rfl
def okQ (T : AT) (rf : Nat → Int32) (p : Nat) (o : Option Nat) (j : Nat) : Bool := tTh T j && (decide (j ≠ 0) && (decide (tPa T j = p) && (decide (rf j = 0) && over o (ordQ T j))))
theorem okQ_t {T : AT} {rf : Nat → Int32} {p : Nat} {o : Option Nat} {j : Nat} : okQ T rf p o j = true ↔ tTh T j = true ∧ j ≠ 0 ∧ tPa T j = p ∧ rf j = 0 ∧ over o (ordQ T j) = true := by
  simp only [okQ, Bool.and_eq_true, decide_eq_true_eq]
theorem isRef_ok {S : St} {j : Nat} (hj : j < 42) : X3_isReferral S (nI j) = some (bI (decide (¬ S 26 j = 0))) := by
  unfold X3_isReferral X3_isReferral_b23 X3_isReferral_b24
  rw [if_neg (nI_pos (by omega)), if_neg (ge42 hj), if_pos (in42 hj), cl42 hj]
  by_cases h : S 26 j = 0
  · rw [if_pos h, decide_eq_false (fun q => q h)]
    rfl
  · rw [if_neg h, decide_eq_true h]
    rfl
theorem childAfter_ok {S : St} {T : AT} {p : Nat} {o : Option Nat} (hp : p < 42) (ho : ∀ t, o = some t → t < 1000) (w1 : W1 T) (w3 : W3 T) (h3 : E3 S T (-1)) (h4 : E4 S T) : X4_childAfter S (nI p) (oI o) = some (oI (mnA (okQ T (S 26) p o) (ordQ T) 42)) := by
  unfold X4_childAfter X4_childAfter_L6
  refine wl_for0 (f := fun a' : (Int32 × Int32 × Int32 × Int32) => X4_childAfter_H6 S a'.1 a'.2.1 a'.2.2.1 a'.2.2.2) (N := 42) (fun j => (nI p, oI o, oI (mnA (okQ T (S 26) p o) (ordQ T) j), nI j)) (fun j hj => ?_) ?_ (by decide)
  · show X4_childAfter_H6 S (nI p) (oI o) (oI (mnA (okQ T (S 26) p o) (ordQ T) j)) (nI j) = some (.inl (nI p, oI o, oI (if okQ T (S 26) p o j = true then (match mnA (okQ T (S 26) p o) (ordQ T) j with | none => some j | some b => if ordQ T b ≤ ordQ T j then some b else some j) else mnA (okQ T (S 26) p o) (ordQ T) j), nI (j + 1)))
    have keep : ∀ z, X4_childAfter_b68 S (nI p) (oI o) z (nI j) = some (.inl (nI p, oI o, z, nI (j + 1))) := fun z => by
      unfold X4_childAfter_b68
      rw [nI_succ]
    have take : X4_childAfter_b64 S (nI p) (oI o) (nI j) = some (.inl (nI p, oI o, nI j, nI (j + 1))) := by
      unfold X4_childAfter_b64
      exact keep _
    have oj := ordQ_lt w3 hj
    unfold X4_childAfter_H6
    rw [if_neg (ge42 hj), if_pos (in42 hj), cl42 hj, h3 j hj (nI_nn (by omega))]
    by_cases hq : paI T j = nI p
    · have hq' := (paI_eq hp (w1 j hj)).mp hq
      rw [if_pos hq, isRef_ok hj, bs]
      by_cases hr : S 26 j = 0
      · rw [decide_eq_false (show ¬ ¬ S 26 j = 0 from fun q => q hr), if_pos bit0, order_ok h4 w3 hj, bs]
        by_cases hv : over o (ordQ T j) = true
        · rw [if_neg (show ¬ nI (ordQ T j) ≤ oI o from fun q => (le_oI ho (by omega)).mp q hv), if_pos (okQ_t.mpr ⟨hq'.1, hq'.2.1, hq'.2.2, hr, hv⟩)]
          rcases mnA_sp (ok := okQ T (S 26) p o) (st := ordQ T) j with ⟨h1, _⟩ | ⟨b, h1, h2, _, _⟩
          · rw [h1, if_pos (show oI none = -1 from rfl), take]
            rfl
          · have ob := ordQ_lt (k := b) w3 (by omega)
            rw [h1, oI_s, if_neg (nI_nn (by omega)), bs, order_ok h4 w3 (by omega), bs]
            show _ = some (Sum.inl (nI p, oI o, oI (if ordQ T b ≤ ordQ T j then some b else some j), nI (j + 1)))
            by_cases hb : ordQ T b ≤ ordQ T j
            · rw [if_pos (nI_le hb (by omega)), if_pos hb, keep]
              rfl
            · rw [if_neg (nI_ge (by omega) (by omega)), if_neg hb, take]
              rfl
        · rw [if_pos (show nI (ordQ T j) ≤ oI o from (le_oI ho (by omega)).mpr hv), if_neg (fun q => hv (okQ_t.mp q).2.2.2.2), keep]
      · rw [decide_eq_true hr, if_neg bit1, if_neg (fun q => hr (okQ_t.mp q).2.2.2.1), keep]
    · rw [if_neg hq, if_neg (fun q => hq ((paI_eq hp (w1 j hj)).mpr ⟨(okQ_t.mp q).1, (okQ_t.mp q).2.1, (okQ_t.mp q).2.2.1⟩)), keep]
  · have e : ∀ z, X4_childAfter_H6 S (nI p) (oI o) z (nI 42) = some (.inr z) := fun z => by
      unfold X4_childAfter_H6 X4_childAfter_b74
      rw [if_pos le42]
      rfl
    exact e _
