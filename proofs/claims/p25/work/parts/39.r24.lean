/-! PURE 24: the next entry, both -/
theorem mnA_congr {ok ok' : Nat → Bool} {st : Nat → Nat} : ∀ n, (∀ j, j < n → ok j = ok' j) → mnA ok st n = mnA ok' st n := by
  intro n
  induction n with
  | zero => intro _; rfl
  | succ n ih =>
    intro h
    show (if ok n = true then (match mnA ok st n with | none => some n | some b => if st b ≤ st n then some b else some n) else mnA ok st n) = if ok' n = true then (match mnA ok' st n with | none => some n | some b => if st b ≤ st n then some b else some n) else mnA ok' st n
    rw [ih (fun j hj => h j (by omega)), h n (by omega)]
theorem okQ_congr {T : AT} {rf rf' : Nat → Int32} (h : ∀ k, k < 42 → rf k = rf' k) (p : Nat) (o : Option Nat) (j : Nat) (hj : j < 42) : okQ T rf p o j = okQ T rf' p o j := by
  unfold okQ
  rw [h j hj]
theorem kidQ_congr {T : AT} {rf rf' : Nat → Int32} (h : ∀ k, k < 42 → rf k = rf' k) (c : Nat) : kidQ T rf c = kidQ T rf' c := mnA_congr 42 (fun j hj => okQ_congr h _ _ j hj)
theorem sibQ_congr {T : AT} {rf rf' : Nat → Int32} (h : ∀ k, k < 42 → rf k = rf' k) (c : Nat) : sibQ T rf c = sibQ T rf' c := mnA_congr 42 (fun j hj => okQ_congr h _ _ j hj)
theorem clQ_congr {T : AT} {rf rf' : Nat → Int32} (h : ∀ k, k < 42 → rf k = rf' k) : ∀ i c, clQ T rf i c = clQ T rf' i c := by
  intro i
  induction i with
  | zero => intro c; rfl
  | succ i ih =>
    intro c
    have e := sibQ_congr (T := T) h c
    cases hs : sibQ T rf' c with
    | none =>
      rw [hs] at e
      rw [clQ_none e, clQ_none hs, ih]
    | some s =>
      rw [hs] at e
      rw [clQ_some e, clQ_some hs]
theorem clQ_sp {T : AT} {rf : Nat → Int32} : ∀ i c s, clQ T rf i c = some s → ∃ j, j < i ∧ sibQ T rf (pw (tPa T) j c) = some s := by
  intro i
  induction i with
  | zero => intro c s h; exact nomatch h
  | succ i ih =>
    intro c s h
    cases hs : sibQ T rf c with
    | none =>
      rw [clQ_none hs] at h
      obtain ⟨j, a, b⟩ := ih _ _ h
      exact ⟨j + 1, by omega, b⟩
    | some z =>
      rw [clQ_some hs] at h
      exact ⟨0, by omega, by rw [← h]; exact hs⟩
def inV (T : AT) (base sc c : Nat) : Prop := tTh T c = true ∧ c < 42 ∧ (∃ i, pw (tPa T) i c = base) ∧ (sc = 1 → tPa T c = base ∧ c ≠ 0 ∧ c ≠ base)
theorem sib_lex {T : AT} {rf : Nat → Int32} {w s : Nat} (w0 : W0 T) (w1 : W1 T) (w2 : W2 T) (hw : w < 42) (hw0 : w ≠ 0) (h : sibQ T rf w = some s) (t : List Nat) : lexQ (pthQ T 42 w ++ t) (pthQ T 42 s) := by
  obtain ⟨a1, a2, a3, a4, a5⟩ := sibQ_sp h
  rw [pthQ_s w0 w1 w2 hw hw0, pthQ_s w0 w1 w2 a1 a3, a4, List.append_assoc]
  exact lexQ_mid a5 _ _ _
