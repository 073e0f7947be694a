/-! PURE 15: carry, the small calls -/
theorem bor1 : ∀ b, b < 4 → ∀ m, m < 2 → nI b ||| nI (2 ^ m) = nI (b ||| 2 ^ m) := by decide
theorem bor2 : ∀ b, b < 4 → ∀ m, m < 2 → b ||| 2 ^ m < 4 := by decide
theorem bor3 : ∀ b, b < 4 → ∀ m, m < 2 → ∀ q, q < 2 → (b ||| 2 ^ m).testBit q = (b.testBit q || decide (q = m)) := by decide
theorem alike_tr {a b l : Option Nat} (h1 : alike a l = true) (h2 : alike b l = true) : alike a b = true := by
  cases a with
  | none => exact absurd h1 (by rw [alike_nl]; decide)
  | some i =>
    cases b with
    | none => exact absurd h2 (by rw [alike_nl]; decide)
    | some j =>
      cases l with
      | none => exact absurd h1 (by rw [alike_nr]; decide)
      | some k =>
        have e1 : i % 50 = k % 50 := beq_iff_eq.mp h1
        have e2 : j % 50 = k % 50 := beq_iff_eq.mp h2
        exact beq_iff_eq.mpr (e1.trans e2.symm)
theorem hit_one {T : AT} {p : Nat} {l : Option Nat} {e : Int32} {y z : Nat} (w6 : W6 T) (hy : y < 42) (hz : z < 42) (h1 : hit T p l e y = true) (h2 : hit T p l e z = true) : y = z := by
  obtain ⟨a1, a2, a3, _, a5⟩ := hit_t.mp h1
  obtain ⟨b1, b2, b3, _, b5⟩ := hit_t.mp h2
  by_cases h : y = z
  · exact h
  · have := w6 y z hy hz h a2 b2 a1 b1 (a3.trans b3.symm)
    rw [alike_tr a5 b5] at this
    exact absurd this (by decide)
