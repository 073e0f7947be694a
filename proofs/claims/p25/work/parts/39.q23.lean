/-! PURE 23: the next entry of a subtree -/
def kidQ (T : AT) (rf : Nat → Int32) (c : Nat) : Option Nat := mnA (okQ T rf c none) (ordQ T) 42
def sibQ (T : AT) (rf : Nat → Int32) (c : Nat) : Option Nat := mnA (okQ T rf (tPa T c) (some (ordQ T c))) (ordQ T) 42
def clQ (T : AT) (rf : Nat → Int32) : Nat → Nat → Option Nat
  | 0, _ => none
  | i + 1, c => match sibQ T rf c with
    | some s => some s
    | none => clQ T rf i (tPa T c)
theorem kidQ_sp {T : AT} {rf : Nat → Int32} {c s : Nat} (h : kidQ T rf c = some s) : s < 42 ∧ tTh T s = true ∧ s ≠ 0 ∧ tPa T s = c := by
  rcases mnA_sp (ok := okQ T rf c none) (st := ordQ T) 42 with ⟨h1, _⟩ | ⟨b, h1, h2, h3, _⟩
  · have h' : mnA (okQ T rf c none) (ordQ T) 42 = some s := h
    rw [h1] at h'
    exact nomatch h'
  · have h' : mnA (okQ T rf c none) (ordQ T) 42 = some s := h
    rw [h1] at h'
    have e := Option.some.inj h'
    subst e
    obtain ⟨a1, a2, a3, _, _⟩ := okQ_t.mp h3
    exact ⟨h2, a1, a2, a3⟩
theorem sibQ_sp {T : AT} {rf : Nat → Int32} {c s : Nat} (h : sibQ T rf c = some s) : s < 42 ∧ tTh T s = true ∧ s ≠ 0 ∧ tPa T s = tPa T c ∧ ordQ T c < ordQ T s := by
  rcases mnA_sp (ok := okQ T rf (tPa T c) (some (ordQ T c))) (st := ordQ T) 42 with ⟨h1, _⟩ | ⟨b, h1, h2, h3, _⟩
  · have h' : mnA (okQ T rf (tPa T c) (some (ordQ T c))) (ordQ T) 42 = some s := h
    rw [h1] at h'
    exact nomatch h'
  · have h' : mnA (okQ T rf (tPa T c) (some (ordQ T c))) (ordQ T) 42 = some s := h
    rw [h1] at h'
    have e := Option.some.inj h'
    subst e
    obtain ⟨a1, a2, a3, _, a5⟩ := okQ_t.mp h3
    exact ⟨h2, a1, a2, a3, of_decide_eq_true a5⟩
theorem ord_b {T : AT} {c : Nat} (w3 : W3 T) (hc : c < 42) : ∀ t, some (ordQ T c) = some t → t < 1000 := fun t q => by
  have := ordQ_lt w3 hc
  rw [← Option.some.inj q]
  omega
theorem wl_inl {α β : Type} {f : α → Option (α ⊕ β)} {a a' : α} {n : Nat} (h : f a = some (.inl a')) : wloop f (n + 1) a = wloop f n a' := by rw [wloop, h]
theorem wl_inr {α β : Type} {f : α → Option (α ⊕ β)} {a : α} {r : β} {n : Nat} (h : f a = some (.inr r)) : wloop f (n + 1) a = some r := by rw [wloop, h]
theorem clQ_none {T : AT} {rf : Nat → Int32} {i c : Nat} (h : sibQ T rf c = none) : clQ T rf (i + 1) c = clQ T rf i (tPa T c) := by rw [clQ, h]
theorem clQ_some {T : AT} {rf : Nat → Int32} {i c s : Nat} (h : sibQ T rf c = some s) : clQ T rf (i + 1) c = some s := by rw [clQ, h]
theorem climbE {S : St} {T : AT} {base : Nat} (hb : base < 42) (w0 : W0 T) (w1 : W1 T) (w3 : W3 T) (hcl : CLO T none) (h3 : E3 S T (-1)) (h4 : E4 S T) : ∀ i c cnt fuel, c < 42 → tTh T c = true → pw (tPa T) i c = base → (∀ j, j < i → pw (tPa T) j c ≠ base) → cnt + i ≤ 41 → i < fuel → wloop (fun a' : (Int32 × Int32 × Int32) => X4_entryAfter_H24 S a'.1 a'.2.1 a'.2.2) fuel (nI base, nI c, nI cnt) = some (oI (clQ T (S 26) i c)) := by
  intro i
  induction i with
  | zero =>
    intro c cnt fuel hc ht hp hf hcnt hfu
    obtain ⟨f, rfl⟩ : ∃ f, fuel = f + 1 := ⟨fuel - 1, by omega⟩
    have e : X4_entryAfter_H24 S (nI base) (nI c) (nI cnt) = some (.inr (-1)) := by
      unfold X4_entryAfter_H24 X4_entryAfter_b85
      rw [if_neg (ge42 (by omega)), if_pos (by rw [show c = base from hp])]
      rfl
    exact wl_inr e
  | succ i ih =>
    intro c cnt fuel hc ht hp hf hcnt hfu
    obtain ⟨f, rfl⟩ : ∃ f, fuel = f + 1 := ⟨fuel - 1, by omega⟩
    have hcb : c ≠ base := hf 0 (by omega)
    have hc0 : c ≠ 0 := fun q => by
      rw [q, pw_stay (n := 0) w0.2.2.1 rfl (Nat.zero_le _)] at hp
      rw [q] at hcb
      exact hcb hp
    have hpc : tPa T c < 42 := w1 c hc
    have hpt : tTh T (tPa T c) = true := (hcl c hc ht).elim id (fun q => nomatch q)
    have par : X4_parentAt S (nI c) = some (nI (tPa T c)) := by
      rw [parentAt_ok h3 hc]
      unfold paI
      rw [if_pos ⟨ht, hc0⟩]
    have e0 : X4_entryAfter_H24 S (nI base) (nI c) (nI cnt) = (if oI (sibQ T (S 26) c) = -1 then some (.inl (nI base, nI (tPa T c), nI cnt + 1)) else exI (X4_entryAfter_b68 S (oI (sibQ T (S 26) c)))) := by
      unfold X4_entryAfter_H24
      rw [if_neg (ge42 (by omega)), if_neg (fun q => hcb ((nI_eq (by omega) (by omega)).mp q)), if_neg (nI_nn (by omega)), par, bs, order_ok h4 w3 hc, bs, show nI (ordQ T c) = oI (some (ordQ T c)) from rfl, childAfter_ok hpc (ord_b w3 hc) w1 w3 h3 h4, bs, bs]
      rfl
    cases hs : sibQ T (S 26) c with
    | none =>
      rw [clQ_none hs]
      have e : X4_entryAfter_H24 S (nI base) (nI c) (nI cnt) = some (.inl (nI base, nI (tPa T c), nI (cnt + 1))) := by
        rw [e0, hs, if_pos (show oI none = -1 from rfl), nI_succ]
      exact (wl_inl e).trans (ih (tPa T c) (cnt + 1) f hpc hpt hp (fun j hj => hf (j + 1) (by omega)) (by omega) (by omega))
    | some s =>
      rw [clQ_some hs]
      have hs42 := (sibQ_sp hs).1
      have e : X4_entryAfter_H24 S (nI base) (nI c) (nI cnt) = some (.inr (oI (some s))) := by
        rw [e0, hs, if_neg (show ¬ oI (some s) = -1 from nI_nn (by omega))]
        rfl
      exact wl_inr e
