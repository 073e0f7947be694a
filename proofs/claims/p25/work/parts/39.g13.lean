/-! PURE 13: the questions -/
theorem cntF_congr {f g : Nat → Bool} : ∀ n, (∀ j, j < n → f j = g j) → cntF f n = cntF g n
  | 0, _ => rfl
  | n + 1, h => by
    show cntF f n + (if f n = true then 1 else 0) = cntF g n + (if g n = true then 1 else 0)
    rw [cntF_congr n (fun j hj => h j (by omega)), h n (by omega)]
theorem paI_th {T : AT} {k : Nat} (h : tTh T k = true) : paI T k = paM T k := by
  unfold paI paM
  by_cases h0 : k = 0
  · rw [if_neg (fun q => q.2 h0), if_pos h0]
  · rw [if_pos ⟨h, h0⟩, if_neg h0]
theorem labelAt_ok {S : St} {T : AT} {k : Nat} (h4 : E4 S T) (hk : k < 42) : X4_labelAt S (nI k) = some (oI (tLa T k)) := by
  unfold X4_labelAt
  rw [at_in hk (by decide), bs, h4 k hk]
