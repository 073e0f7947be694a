/-! PURE 24: the next entry, both -/
theorem mnA_congr {ok ok' : Nat → Bool} {st : Nat → Nat} : ∀ n, (∀ j, j < n → ok j = ok' j) → mnA ok st n = mnA ok' st n := by
  intro n
  induction n with
  | zero => intro _; rfl
  | succ n ih =>
    intro h
    show (if ok n = true then (match mnA ok st n with | none => some n | some b => if st b ≤ st n then some b else some n) else mnA ok st n) = if ok' n = true then (match mnA ok' st n with | none => some n | some b => if st b ≤ st n then some b else some n) else mnA ok' st n
    rw [ih (fun j hj => h j (by omega)), h n (by omega)]
theorem okQ_congr {T : AT} {rf rf' : Nat → Int32} (h : ∀ k, k < 42 → rf k = rf' k) (p : Nat) (o : Option Nat) (j : Nat) (hj : j < 42) : okQ T rf p o j = okQ T rf' p o j := by
  unfold okQ
  rw [h j hj]
theorem kidQ_congr {T : AT} {rf rf' : Nat → Int32} (h : ∀ k, k < 42 → rf k = rf' k) (c : Nat) : kidQ T rf c = kidQ T rf' c := mnA_congr 42 (fun j hj => okQ_congr h _ _ j hj)
theorem sibQ_congr {T : AT} {rf rf' : Nat → Int32} (h : ∀ k, k < 42 → rf k = rf' k) (c : Nat) : sibQ T rf c = sibQ T rf' c := mnA_congr 42 (fun j hj => okQ_congr h _ _ j hj)
theorem clQ_congr {T : AT} {rf rf' : Nat → Int32} (h : ∀ k, k < 42 → rf k = rf' k) : ∀ i c, clQ T rf i c = clQ T rf' i c := by
  intro i
  induction i with
  | zero => intro c; rfl
  | succ i ih =>
    intro c
    have e := sibQ_congr (T := T) h c
    cases hs : sibQ T rf' c with
    | none =>
      rw [hs] at e
      rw [clQ_none e, clQ_none hs, ih]
    | some s =>
      rw [hs] at e
      rw [clQ_some e, clQ_some hs]
theorem clQ_sp {T : AT} {rf : Nat → Int32} : ∀ i c s, clQ T rf i c = some s → ∃ j, j < i ∧ sibQ T rf (pw (tPa T) j c) = some s := by
  intro i
  induction i with
  | zero => intro c s h; exact nomatch h
  | succ i ih =>
    intro c s h
    cases hs : sibQ T rf c with
    | none =>
      rw [clQ_none hs] at h
      obtain ⟨j, a, b⟩ := ih _ _ h
      exact ⟨j + 1, by omega, b⟩
    | some z =>
      rw [clQ_some hs] at h
      exact ⟨0, by omega, by rw [← h]; exact hs⟩
def inV (T : AT) (base sc c : Nat) : Prop := tTh T c = true ∧ c < 42 ∧ (∃ i, pw (tPa T) i c = base) ∧ (sc = 1 → tPa T c = base ∧ c ≠ 0 ∧ c ≠ base)
theorem sib_lex {T : AT} {rf : Nat → Int32} {w s : Nat} (w0 : W0 T) (w1 : W1 T) (w2 : W2 T) (hw : w < 42) (hw0 : w ≠ 0) (h : sibQ T rf w = some s) (t : List Nat) : lexQ (pthQ T 42 w ++ t) (pthQ T 42 s) := by
  obtain ⟨a1, a2, a3, a4, a5⟩ := sibQ_sp h
  rw [pthQ_s w0 w1 w2 hw hw0, pthQ_s w0 w1 w2 a1 a3, a4, List.append_assoc]
  exact lexQ_mid a5 _ _ _
theorem next_both {S M : St} {T : AT} {base sc c : Nat} (hb : base < 42) (hsc : sc < 3) (w0 : W0 T) (w1 : W1 T) (w2 : W2 T) (w3 : W3 T) (hcl : CLO T none) (h3 : E3 S T (-1)) (h4 : E4 S T) (g1 : M18 M T) (g3 : M19 M T (-1)) (g4 : M20 M T) (hrf : ∀ k, k < 42 → S 26 k = M 13 k) (hV : inV T base sc c) : ∃ o : Option Nat, X5_nextInScope S (nI base) (nI sc) (nI c) = some (oI o) ∧ (sc = 0 → o = none) ∧ (sc ≠ 0 → X6_goes M (nI c) (nI base) (nI sc) = some (oI o)) ∧ ∀ s, o = some s → lexQ (pthQ T 42 c) (pthQ T 42 s) ∧ inV T base sc s := by
  obtain ⟨v1, v2, v3, v4⟩ := hV
  unfold X5_nextInScope X6_goes
  have cases3 : sc = 0 ∨ sc = 1 ∨ sc = 2 := by omega
  rcases cases3 with rfl | rfl | rfl
  · refine ⟨none, ?_, fun _ => rfl, fun q => absurd rfl q, fun s q => nomatch q⟩
    rw [if_neg (by decide), if_neg (by decide)]
    rfl
  · obtain ⟨p1, p2, p3⟩ := v4 rfl
    refine ⟨sibQ T (S 26) c, ?_, fun q => absurd q (by decide), fun _ => ?_, fun s hs => ?_⟩
    · rw [if_pos (show nI 1 = 1 from rfl), order_ok h4 w3 v2, bs, show nI (ordQ T c) = oI (some (ordQ T c)) from rfl, childAfter_ok hb (ord_b w3 v2) w1 w3 h3 h4, bs]
      unfold sibQ
      rw [p1]
    · rw [if_neg (by decide), if_neg (fun q => p3 ((nI_eq (by omega) (by omega)).mp q))]
      unfold X6_goes_b24 X6_goes_b25 X6_goes_L30
      have k := climbM hb w0 w1 w3 hcl g1 g3 g4 1 c 1000 v2 v1 p1 (fun j hj => by rw [show j = 0 by omega]; exact p3) (by decide)
      have e : clQ T (M 13) 1 c = sibQ T (S 26) c := by
        rw [sibQ_congr hrf c]
        cases hs : sibQ T (M 13) c with
        | none => rw [clQ_none hs]; rfl
        | some s => rw [clQ_some hs]
      rw [e] at k
      exact k
    · obtain ⟨a1, a2, a3, a4, a5⟩ := sibQ_sp hs
      have l := sib_lex w0 w1 w2 v2 p2 hs []
      rw [List.append_nil] at l
      refine ⟨l, a2, a1, ⟨1, a4.trans p1⟩, fun _ => ⟨a4.trans p1, a3, fun q => ?_⟩⟩
      rw [q] at a4
      obtain ⟨n, hn1, hn2, hn3⟩ := pw_bd w1 w2 hb
      rw [p1] at a4
      have : ∀ j, pw (tPa T) j base = base := fun j => by
        induction j with
        | zero => rfl
        | succ j ih => rw [pw_s, ih, a4]
      rw [this n] at hn2
      rw [q, hn2] at a3
      exact a3 rfl
  · obtain ⟨i, hi, hil⟩ := pk_least _ v3
    have hi41 : i ≤ 41 := by
      obtain ⟨n, hn1, hn2, hn3⟩ := pw_bd w1 w2 v2
      rcases Nat.lt_or_ge n i with q | q
      · exfalso
        have e : base = 0 := by rw [← hi]; exact pw_stay w0.2.2.1 hn2 (by omega)
        exact hil n q (by rw [hn2, e])
      · omega
    have first : ∀ j, j < i → pw (tPa T) j c ≠ base := fun j hj => hil j hj
    have kE : X4_entryAfter S (nI c) (nI base) = some (oI (match kidQ T (S 26) c with | some s => some s | none => clQ T (S 26) i c)) := by
      unfold X4_entryAfter
      rw [show (-1 : Int32) = oI none from rfl, childAfter_ok (o := none) v2 (fun t q => nomatch q) w1 w3 h3 h4, bs]
      cases hk : kidQ T (S 26) c with
      | none =>
        have hk' : mnA (okQ T (S 26) c none) (ordQ T) 42 = none := hk
        rw [hk', if_pos rfl]
        exact climbE hb w0 w1 w3 hcl h3 h4 i c 0 1000 v2 v1 hi first (by omega) (by omega)
      | some s =>
        have hk' : mnA (okQ T (S 26) c none) (ordQ T) 42 = some s := hk
        have := (kidQ_sp hk).1
        rw [hk', if_neg (show ¬ oI (some s) = oI none from nI_nn (by omega))]
    refine ⟨match kidQ T (S 26) c with | some s => some s | none => clQ T (S 26) i c, ?_, fun q => absurd q (by decide), fun _ => ?_, fun s hs => ?_⟩
    · rw [if_neg (by decide), if_pos (show nI 2 = 2 from rfl), kE, bs]
    · rw [if_pos (show nI 2 = 2 from rfl)]
      unfold X6_goes_b15 X6_goes_b25 X6_goes_L30
      rw [show (-1 : Int32) = oI none from rfl, behind_ok (o := none) v2 (fun t q => nomatch q) w1 w3 g1 g3 g4, bs]
      rw [kidQ_congr hrf c]
      cases hk : kidQ T (M 13) c with
      | none =>
        have hk' : mnA (okQ T (M 13) c none) (ordQ T) 42 = none := hk
        rw [hk', clQ_congr hrf i c]
        exact climbM hb w0 w1 w3 hcl g1 g3 g4 i c 1000 v2 v1 hi first (by omega)
      | some s =>
        have hk' : mnA (okQ T (M 13) c none) (ordQ T) 42 = some s := hk
        have hs42 := (kidQ_sp hk).1
        have e2 : X6_goes_H30 M (nI base) (oI (some s)) (nI c) = some (.inr (oI (some s))) := by
          unfold X6_goes_H30 X6_goes_b72
          rw [if_pos (show 0 ≤ oI (some s) from nI_pos' (by omega))]
          rfl
        rw [hk']
        exact wl_inr e2
    · cases hk : kidQ T (S 26) c with
      | none =>
        rw [hk] at hs
        have hs' : clQ T (S 26) i c = some s := hs
        obtain ⟨j, hj, hsj⟩ := clQ_sp i c s hs'
        have hw := pw_lt w1 v2 j
        have hw0 : pw (tPa T) j c ≠ 0 := fun q => by
          have e : base = 0 := by rw [← hi]; exact pw_stay w0.2.2.1 q (by omega)
          exact first j hj (by rw [q, e])
        obtain ⟨t, ht⟩ := pthQ_anc w0 w1 w2 j c v2
        obtain ⟨a1, a2, a3, a4, a5⟩ := sibQ_sp hsj
        refine ⟨by rw [ht]; exact sib_lex w0 w1 w2 hw hw0 hsj t, a2, a1, ⟨i - j, ?_⟩, fun q => absurd q (by decide)⟩
        obtain ⟨d, hd⟩ : ∃ d, i - j = d + 1 := ⟨i - j - 1, by omega⟩
        rw [hd]
        show pw (tPa T) d (tPa T s) = base
        rw [a4, ← pw_s (tPa T) j c, ← pw_add, show j + 1 + d = i by omega]
        exact hi
      | some z =>
        rw [hk] at hs
        have hs' : z = s := Option.some.inj hs
        subst hs'
        obtain ⟨a1, a2, a3, a4⟩ := kidQ_sp hk
        refine ⟨?_, a2, a1, ⟨i + 1, ?_⟩, fun q => absurd q (by decide)⟩
        · rw [pthQ_s w0 w1 w2 a1 a3, a4]
          exact lexQ_pre _ _ _
        · show pw (tPa T) i (tPa T z) = base
          rw [a4]
          exact hi
