/-! PURE 6: one change, in the class and in the model -/
abbrev CH : Type := Nat × Nat × Nat × Nat × Nat × Option Nat
def cK (c : CH) : Nat := c.1
def cX (c : CH) : Nat := c.2.1
def cP (c : CH) : Nat := c.2.2.1
def cL (c : CH) : Nat := c.2.2.2.1
def cW (c : CH) : Nat := c.2.2.2.2.1
def cV (c : CH) : Option Nat := c.2.2.2.2.2
def stepC (A : Nat → Nat) (T : AT) (c : CH) : AT := if cK c = 0 then stepA T (cX c) (cP c) (some (cL c)) (cW c) else if cK c = 1 then stepS A T (cX c) (cW c) (cV c) else if cK c = 2 then stepM T (cX c) (cP c) (some (cL c)) else stepD T (cX c)
def WC (j : Nat) (c : CH) : Prop := cK c < 4 ∧ cX c < 42 ∧ cP c < 42 ∧ cL c < 100 ∧ (cK c = 0 → cX c = j + 2 ∧ cP c ≠ cX c ∧ cW c < 3) ∧ (cK c = 1 → cW c < 4 ∧ ∀ k, cV c = some k → k < 10) ∧ (cK c = 2 → 2 ≤ cX c) ∧ (cK c = 3 → 2 ≤ cX c)
def LEj (S : St) (j : Nat) (c : CH) : Prop := S 15 j = nI (cK c) ∧ S 17 j = nI (cX c) ∧ (cK c = 0 → S 18 j = nI (cP c) ∧ S 19 j = nI (cL c) ∧ S 20 j = nI (cW c)) ∧ (cK c = 1 → S 18 j = nI (cW c) ∧ S 19 j = oI (cV c)) ∧ (cK c = 2 → S 18 j = nI (cP c) ∧ S 19 j = nI (cL c))
theorem stepC_WF {A : Nat → Nat} {T : AT} {j : Nat} {c : CH} (wc : WC j c) (w : WF T) (hc : CLO T none) (hf : cK c = 0 → tTh T (cX c) = false) : WF (stepC A T c) ∧ CLO (stepC A T c) none := by
  obtain ⟨k1, k2, k3, k4, k5, k6, k7, k8⟩ := wc
  unfold stepC
  by_cases h0 : cK c = 0
  · rw [if_pos h0]
    exact stepA_WF (by have := (k5 h0).1; omega) k2 k3 (k5 h0).2.1 k4 (k5 h0).2.2 (hf h0) w hc
  · rw [if_neg h0]
    by_cases h1 : cK c = 1
    · rw [if_pos h1]
      exact stepS_WF (k6 h1).2 w hc
    · rw [if_neg h1]
      by_cases h2 : cK c = 2
      · rw [if_pos h2]
        exact stepM_WF (k7 h2) k2 k3 k4 w hc
      · rw [if_neg h2]
        exact stepD_WF (k8 (by omega)) k2 w hc
theorem perform_ok {S : St} {T : AT} {N A : Nat → Nat} {j : Nat} {c : CH} (hj : j < 40) (hl : LEj S j c) (wc : WC j c) (w : WF T) (hc : CLO T none) (hf : cK c = 0 → tTh T (cX c) = false) (hA : RCL S 22 23 N A) (h : RE S T) (hC : RC S T) : ∃ S', X4_perform S (nI j) = some S' ∧ RE S' (stepC A T c) ∧ RC S' (stepC A T c) ∧ FE S S' := by
  obtain ⟨k1, k2, k3, k4, k5, k6, k7, k8⟩ := wc
  obtain ⟨l1, l2, l3, l4, l5⟩ := hl
  unfold X4_perform X4_perform_b99 X4_perform_b110 X4_perform_b121 X4_perform_b129 X4_perform_b132 stepC
  rw [at_in hj (by decide), bs, at_in hj (by decide), bs, at_in hj (by decide), bs, at_in hj (by decide), bs, l1, l2]
  by_cases h0 : cK c = 0
  · rw [if_pos (show nI (cK c) = 0 by rw [h0]; rfl), if_pos h0, at_in hj (by decide), bs, (l3 h0).1, (l3 h0).2.1, (l3 h0).2.2]
    obtain ⟨S', r0, r1⟩ := pAdd_ok (i := cW c) (by have := (k5 h0).1; omega) k2 k3 k4 w.2.1 w.2.2.2.1 h hC (hf h0)
    exact ⟨S', by rw [r0]; rfl, r1⟩
  · rw [if_neg (nI_ne0 (by omega) (by omega)), if_neg h0]
    by_cases h1 : cK c = 1
    · rw [if_pos (show nI (cK c) = 1 by rw [h1]; rfl), if_pos h1, (l4 h1).1, (l4 h1).2]
      obtain ⟨S', r0, r1⟩ := pSet_ok (v := cV c) k2 (k6 h1).1 w.2.2.2.2.1 hA h hC
      exact ⟨S', by rw [r0]; rfl, r1⟩
    · rw [if_neg (show ¬ nI (cK c) = 1 from fun q => h1 ((nI_eq (b := 1) (by omega) (by omega)).mp q)), if_neg h1]
      by_cases h2 : cK c = 2
      · rw [if_pos (show nI (cK c) = 2 by rw [h2]; rfl), if_pos h2, (l5 h2).1, (l5 h2).2]
        obtain ⟨S', r0, r1⟩ := pMove_ok (by have := k7 h2; omega) k2 k3 k4 w hc h hC
        exact ⟨S', by rw [r0]; rfl, r1⟩
      · rw [if_neg (show ¬ nI (cK c) = 2 from fun q => h2 ((nI_eq (b := 2) (by omega) (by omega)).mp q)), if_neg h2, if_pos (show nI (cK c) = 3 by rw [show cK c = 3 by omega]; rfl)]
        obtain ⟨S', r0, r1⟩ := pDel_ok (k8 (by omega)) k2 w hc h hC
        exact ⟨S', by rw [r0]; rfl, r1⟩
