/-! PURE 14: move, delete -/
theorem fixed_ok {p : Nat} (hp : p < 42) : (2 ≤ p ∧ X5_checkIsNotFixed (nI p) = some 0 ∧ ¬ nI p < 2) ∨ (X5_checkIsNotFixed (nI p) = some 3 ∧ nI p < 2) := by
  unfold X5_checkIsNotFixed X5_checkIsNotFixed_b9
  rcases Nat.lt_or_ge p 2 with h | h
  · right
    have x : p = 0 ∨ p = 1 := by omega
    rcases x with rfl | rfl
    · exact ⟨rfl, by decide⟩
    · exact ⟨rfl, by decide⟩
  · left
    refine ⟨h, ?_, nI_nlt (b := 2) h (by omega)⟩
    rw [if_neg (nI_ne0 (by omega) (by omega)), if_neg (show ¬ nI p = 1 from fun q => by have := (nI_eq (b := 1) (by omega) (by decide)).mp q; omega)]
theorem cntF_pos {f : Nat → Bool} : ∀ n j, j < n → f j = true → 0 < cntF f n
  | 0, j, h, _ => absurd h (Nat.not_lt_zero j)
  | n + 1, j, h, e => by
    show 0 < cntF f n + (if f n = true then 1 else 0)
    rcases Nat.lt_or_ge j n with q | q
    · have := cntF_pos n j q e
      omega
    · rw [show n = j by omega, if_pos e]
      omega
theorem cntF_none {f : Nat → Bool} : ∀ n, (∀ j, j < n → f j = false) → cntF f n = 0
  | 0, _ => rfl
  | n + 1, h => by
    show cntF f n + (if f n = true then 1 else 0) = 0
    rw [cntF_none n (fun j hj => h j (by omega)), h n (by omega)]
    rfl
def dco (k : Nat) : Nat := if k = 3 then 2 else k
theorem tTh_stepD {T : AT} {x : Nat} (h : tTh T x = true) : tTh (stepD T x) = fu (tTh T) x false := by
  unfold stepD
  rw [if_pos h, tTh_fr]
  rfl
