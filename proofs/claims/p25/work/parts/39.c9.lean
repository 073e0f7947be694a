/-! PURE 9: the model grows a tree anew -/
def LOGW (n : Nat) (lg : Nat → CH) (tm mk bt : Nat → Nat) : Prop := n ≤ 40 ∧ (∀ c, c < n → WC c (lg c) ∧ tm c ≤ c + 1 ∧ mk c < 2 ∧ bt c < 4) ∧ ∀ c d, c < n → d < n → 2 * tm c + mk c = 2 * tm d + mk d → c = d
def stp (tm mk : Nat → Nat) (c : Nat) : Nat := 2 * tm c + mk c
def KN (n : Nat) (bt : Nat → Nat) (m : Nat) (st : Nat → Nat) (L : List Nat) : Prop := SO st L ∧ ∀ c, c ∈ L ↔ c < n ∧ (bt c).testBit m = true
theorem ix2 (a b : Nat) : 2 * nI a + nI b = nI (2 * a + b) := by
  rw [show (2 : Int32) = nI 2 from rfl, pk_mul, nI_add]
def over (s : Option Nat) (a : Nat) : Bool := match s with
  | none => true
  | some t => decide (t < a)
theorem le_oI {s : Option Nat} {a : Nat} (hs : ∀ t, s = some t → t < 1000) (ha : a < 1000) : (nI a ≤ oI s) ↔ ¬ over s a = true := by
  cases s with
  | none =>
    refine ⟨fun q => absurd q ?_, fun q => absurd rfl q⟩
    exact fun q => nI_pos (n := a) (by omega) (Int32.lt_of_le_of_lt q (by decide))
  | some t =>
    have := hs t rfl
    show nI a ≤ nI t ↔ ¬ decide (t < a) = true
    rw [nI_leI (by omega) (by omega), decide_eq_true_eq]
    omega
def el (bt : Nat → Nat) (m : Nat) (st : Nat → Nat) (s : Option Nat) (j : Nat) : Bool := (bt j).testBit m && over s (st j)
def nA (bt : Nat → Nat) (m : Nat) (st : Nat → Nat) (s : Option Nat) : Nat → Option Nat := fr (fun j a => if el bt m st s j = true then (match a with | none => some j | some b => if st b ≤ st j then some b else some j) else a) none
theorem nA_sp {bt : Nat → Nat} {m : Nat} {st : Nat → Nat} {s : Option Nat} : ∀ j, (nA bt m st s j = none ∧ ∀ i, i < j → el bt m st s i = false) ∨ ∃ b, nA bt m st s j = some b ∧ b < j ∧ el bt m st s b = true ∧ ∀ i, i < j → el bt m st s i = true → st b ≤ st i := by
  intro j
  induction j with
  | zero => exact .inl ⟨rfl, fun i hi => absurd hi (Nat.not_lt_zero i)⟩
  | succ j ih =>
    have e : nA bt m st s (j + 1) = if el bt m st s j = true then (match nA bt m st s j with | none => some j | some b => if st b ≤ st j then some b else some j) else nA bt m st s j := rfl
    rw [e]
    by_cases h : el bt m st s j = true
    · rw [if_pos h]
      right
      rcases ih with ⟨h1, h2⟩ | ⟨b, h1, h2, h3, h4⟩
      · rw [h1]
        refine ⟨j, rfl, Nat.lt_succ_self j, h, fun i hi hel => ?_⟩
        rcases Nat.lt_or_ge i j with q | q
        · rw [h2 i q] at hel
          exact absurd hel (by decide)
        · rw [show i = j by omega]
          exact Nat.le_refl _
      · rw [h1]
        by_cases hb : st b ≤ st j
        · refine ⟨b, if_pos hb, by omega, h3, fun i hi hel => ?_⟩
          rcases Nat.lt_or_ge i j with q | q
          · exact h4 i q hel
          · rw [show i = j by omega]; exact hb
        · refine ⟨j, if_neg hb, Nat.lt_succ_self j, h, fun i hi hel => ?_⟩
          rcases Nat.lt_or_ge i j with q | q
          · have := h4 i q hel
            omega
          · rw [show i = j by omega]
            exact Nat.le_refl _
    · rw [if_neg h]
      rcases ih with ⟨h1, h2⟩ | ⟨b, h1, h2, h3, h4⟩
      · refine .inl ⟨h1, fun i hi => ?_⟩
        rcases Nat.lt_or_ge i j with q | q
        · exact h2 i q
        · rw [show i = j by omega]
          exact Bool.not_eq_true _ ▸ h
      · refine .inr ⟨b, h1, by omega, h3, fun i hi hel => ?_⟩
        rcases Nat.lt_or_ge i j with q | q
        · exact h4 i q hel
        · rw [show i = j by omega] at hel
          exact absurd hel h
theorem so_idx_lt {st : Nat → Nat} : ∀ (L : List Nat), SO st L → ∀ (i k a b : Nat), i < k → L[i]? = some a → L[k]? = some b → st a < st b
  | [], _, i, k, a, b, _, e, _ => nomatch e
  | x :: t, so, i, k, a, b, h, e1, e2 => by
    cases k with
    | zero => omega
    | succ k =>
      have e2' : t[k]? = some b := e2
      cases i with
      | zero => rw [← Option.some.inj e1]; exact so.head b (List.mem_of_getElem? e2')
      | succ i => exact so_idx_lt t so.tail i k a b (by omega) e1 e2'
def thr (st : Nat → Nat) (L : List Nat) : Nat → Option Nat
  | 0 => none
  | i + 1 => (L[i]?).map st
theorem nA_list {n m : Nat} {lg : Nat → CH} {tm mk bt : Nat → Nat} {L : List Nat} (hw : LOGW n lg tm mk bt) (hk : KN n bt m (stp tm mk) L) (i : Nat) (hi : i ≤ L.length) : nA bt m (stp tm mk) (thr (stp tm mk) L i) n = L[i]? := by
  have up' : ∀ d k, L[k]? = some d → i ≤ k → over (thr (stp tm mk) L i) (stp tm mk d) = true := fun d k hd hik => by
    cases i with
    | zero => rfl
    | succ i =>
      obtain ⟨a, ha, _⟩ := get_lt (L := L) (i := i) (by omega)
      show over ((L[i]?).map (stp tm mk)) (stp tm mk d) = true
      rw [ha]
      exact decide_eq_true (so_idx_lt L hk.1 i k a d (by omega) ha hd)
  have dn : ∀ d k, L[k]? = some d → over (thr (stp tm mk) L i) (stp tm mk d) = true → i ≤ k := fun d k hd ho => by
    cases i with
    | zero => exact Nat.zero_le k
    | succ i =>
      obtain ⟨a, ha, _⟩ := get_lt (L := L) (i := i) (by omega)
      have ho' : over ((L[i]?).map (stp tm mk)) (stp tm mk d) = true := ho
      rw [ha] at ho'
      have hlt : stp tm mk a < stp tm mk d := of_decide_eq_true ho'
      rcases Nat.lt_or_ge i k with q | q
      · exact q
      · rcases Nat.lt_or_ge k i with q2 | q2
        · have := so_idx_lt L hk.1 k i d a q2 hd ha
          omega
        · rw [show k = i by omega, ha] at hd
          rw [Option.some.inj hd] at hlt
          omega
  rcases nA_sp (bt := bt) (m := m) (st := stp tm mk) (s := thr (stp tm mk) L i) n with ⟨h1, h2⟩ | ⟨b, h1, h2, h3, h4⟩
  · rw [h1]
    cases hL : L[i]? with
    | none => rfl
    | some c =>
      have hc := (hk.2 c).mp (List.mem_of_getElem? hL)
      have := h2 c hc.1
      rw [el, hc.2, up' c i hL (Nat.le_refl i)] at this
      exact absurd this (by decide)
  · rw [h1]
    have hb : (bt b).testBit m = true ∧ over (thr (stp tm mk) L i) (stp tm mk b) = true := by
      rw [el, Bool.and_eq_true] at h3
      exact h3
    have hbL := (hk.2 b).mpr ⟨h2, hb.1⟩
    obtain ⟨k, hk1, hk2⟩ := List.mem_iff_getElem.mp hbL
    have hkb : L[k]? = some b := by rw [List.getElem?_eq_getElem hk1, hk2]
    have hik := dn b k hkb hb.2
    obtain ⟨c, hc, hcm⟩ := get_lt (L := L) (i := i) (by omega)
    have hc' := (hk.2 c).mp hcm
    have hle := h4 c hc'.1 (by rw [el, hc'.2, up' c i hc (Nat.le_refl i)]; rfl)
    rcases Nat.lt_or_ge i k with q | q
    · have := so_idx_lt L hk.1 i k c b q hc hkb
      omega
    · rw [show i = k by omega, hkb]
theorem KN.len {n m : Nat} {bt st : Nat → Nat} {L : List Nat} (h : KN n bt m st L) (hn : n ≤ 40) : L.length ≤ 40 := by
  rcases Nat.lt_or_ge 40 L.length with q | q
  · exfalso
    obtain ⟨i, j, a, b, e⟩ := php 40 (fun i => (L[i]?).getD 0) (fun i hi => by
      obtain ⟨c, hc, hcm⟩ := get_lt (L := L) (i := i) (by omega)
      show (L[i]?).getD 0 < 40
      rw [hc]
      have := ((h.2 c).mp hcm).1
      exact Nat.lt_of_lt_of_le this hn)
    obtain ⟨c, hc, _⟩ := get_lt (L := L) (i := i) (by omega)
    obtain ⟨d, hd, _⟩ := get_lt (L := L) (i := j) (by omega)
    have e' : (L[i]?).getD 0 = (L[j]?).getD 0 := e
    rw [hc, hd] at e'
    have e'' : c = d := e'
    have := so_idx_lt L h.1 i j c d a hc hd
    rw [e''] at this
    omega
  · exact q
theorem KN.wkl {n m : Nat} {lg : Nat → CH} {tm mk bt : Nat → Nat} {L : List Nat} (h : KN n bt m (stp tm mk) L) (hw : LOGW n lg tm mk bt) : WKL n lg L := ⟨h.1.nodup, fun c hc => ⟨((h.2 c).mp hc).1, (hw.2.1 c ((h.2 c).mp hc).1).1⟩⟩
