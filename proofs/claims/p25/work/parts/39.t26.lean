/-! PURE 26: search, the call -/
theorem ne_par {T : AT} {base s : Nat} (w0 : W0 T) (w1 : W1 T) (w2 : W2 T) (hb : base < 42) (h : tPa T s = base) (h0 : s ≠ 0) : s ≠ base := fun q => by
  rw [q] at h
  obtain ⟨n, _, hn2, _⟩ := pw_bd w1 w2 hb
  have : ∀ j, pw (tPa T) j base = base := fun j => by
    induction j with
    | zero => rfl
    | succ j ih => rw [pw_s, ih, h]
  rw [this n] at hn2
  rw [q, hn2] at h0
  exact h0 rfl
