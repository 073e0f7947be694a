/-! PURE 16: classes, rights, referrals, filters made -/
theorem or16 : ∀ a, a < 16 → ∀ b, b < 16 → nI b ||| nI a = nI (b ||| a) ∧ b ||| a < 16 := by decide +kernel
theorem one0 : ¬ (1 : Int32) = 0 := by decide
theorem tri {x : Int32} (a : ¬ x < -1) (b : x ≤ 1) : x = -1 ∨ x = 0 ∨ x = 1 := by
  rw [Int32.lt_iff_toInt_lt] at a
  rw [Int32.le_iff_toInt_le] at b
  have e1 : (-1 : Int32).toInt = -1 := rfl
  have e2 : (0 : Int32).toInt = 0 := rfl
  have e3 : (1 : Int32).toInt = 1 := rfl
  have : x.toInt = (-1 : Int32).toInt ∨ x.toInt = (0 : Int32).toInt ∨ x.toInt = (1 : Int32).toInt := by omega
  exact this.imp (fun q => Int32.toInt_inj.mp q) (fun q => q.imp (fun q => Int32.toInt_inj.mp q) (fun q => Int32.toInt_inj.mp q))
theorem ix42 (i k : Nat) : nI i * 42 + nI k = nI (42 * i + k) := by
  rw [show (42 : Int32) = nI 42 from rfl, pk_mul, nI_add, Nat.mul_comm]
theorem ix42' (i k : Nat) : 42 * nI i + nI k = nI (42 * i + k) := by
  rw [show (42 : Int32) = nI 42 from rfl, pk_mul, nI_add]
