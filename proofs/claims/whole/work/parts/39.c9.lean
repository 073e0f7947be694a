/-! PURE 9: the model grows a tree anew -/
def LOGM (M : St) (n : Nat) (lg : Nat → CH) (tm mk bt : Nat → Nat) : Prop := M 0 2 = nI n ∧ ∀ c, c < n → LMj M c (lg c) ∧ M 9 c = nI (tm c) ∧ M 10 c = nI (mk c) ∧ M 11 c = nI (bt c)
def LOGW (n : Nat) (lg : Nat → CH) (tm mk bt : Nat → Nat) : Prop := n ≤ 40 ∧ (∀ c, c < n → WC c (lg c) ∧ tm c ≤ c + 1 ∧ mk c < 2 ∧ bt c < 4) ∧ ∀ c d, c < n → d < n → 2 * tm c + mk c = 2 * tm d + mk d → c = d
def stp (tm mk : Nat → Nat) (c : Nat) : Nat := 2 * tm c + mk c
def KN (n : Nat) (bt : Nat → Nat) (m : Nat) (st : Nat → Nat) (L : List Nat) : Prop := SO st L ∧ ∀ c, c ∈ L ↔ c < n ∧ (bt c).testBit m = true
theorem ix2 (a b : Nat) : 2 * nI a + nI b = nI (2 * a + b) := by
  rw [show (2 : Int32) = nI 2 from rfl, pk_mul, nI_add]
theorem knowsM_ok {M : St} {c b m : Nat} (hc : c < 40) (h : M 11 c = nI b) (hb : b < 4) (hm : m < 2) : X6_knows M (nI c) (nI m) = some (bI (b.testBit m)) := by
  unfold X6_knows X6_knows_b19
  rw [if_pos (in40 hc), clN (by omega), h]
  cases ht : b.testBit m
  · rw [if_neg (fun q => by rw [(shr_ok b (by omega) m (by omega)).mp q] at ht; exact absurd ht (by decide))]
    rfl
  · rw [if_pos ((shr_ok b (by omega) m (by omega)).mpr ht)]
    rfl
def over (s : Option Nat) (a : Nat) : Bool := match s with
  | none => true
  | some t => decide (t < a)
theorem le_oI {s : Option Nat} {a : Nat} (hs : ∀ t, s = some t → t < 1000) (ha : a < 1000) : (nI a ≤ oI s) ↔ ¬ over s a = true := by
  cases s with
  | none =>
    refine ⟨fun q => absurd q ?_, fun q => absurd rfl q⟩
    exact fun q => nI_pos (n := a) (by omega) (Int32.lt_of_le_of_lt q (by decide))
  | some t =>
    have := hs t rfl
    show nI a ≤ nI t ↔ ¬ decide (t < a) = true
    rw [nI_leI (by omega) (by omega), decide_eq_true_eq]
    omega
def el (bt : Nat → Nat) (m : Nat) (st : Nat → Nat) (s : Option Nat) (j : Nat) : Bool := (bt j).testBit m && over s (st j)
def nA (bt : Nat → Nat) (m : Nat) (st : Nat → Nat) (s : Option Nat) : Nat → Option Nat := fr (fun j a => if el bt m st s j = true then (match a with | none => some j | some b => if st b ≤ st j then some b else some j) else a) none
theorem nA_sp {bt : Nat → Nat} {m : Nat} {st : Nat → Nat} {s : Option Nat} : ∀ j, (nA bt m st s j = none ∧ ∀ i, i < j → el bt m st s i = false) ∨ ∃ b, nA bt m st s j = some b ∧ b < j ∧ el bt m st s b = true ∧ ∀ i, i < j → el bt m st s i = true → st b ≤ st i := by
  intro j
  induction j with
  | zero => exact .inl ⟨rfl, fun i hi => absurd hi (Nat.not_lt_zero i)⟩
  | succ j ih =>
    have e : nA bt m st s (j + 1) = if el bt m st s j = true then (match nA bt m st s j with | none => some j | some b => if st b ≤ st j then some b else some j) else nA bt m st s j := rfl
    rw [e]
    by_cases h : el bt m st s j = true
    · rw [if_pos h]
      right
      rcases ih with ⟨h1, h2⟩ | ⟨b, h1, h2, h3, h4⟩
      · rw [h1]
        refine ⟨j, rfl, Nat.lt_succ_self j, h, fun i hi hel => ?_⟩
        rcases Nat.lt_or_ge i j with q | q
        · rw [h2 i q] at hel
          exact absurd hel (by decide)
        · rw [show i = j by omega]
          exact Nat.le_refl _
      · rw [h1]
        by_cases hb : st b ≤ st j
        · refine ⟨b, if_pos hb, by omega, h3, fun i hi hel => ?_⟩
          rcases Nat.lt_or_ge i j with q | q
          · exact h4 i q hel
          · rw [show i = j by omega]; exact hb
        · refine ⟨j, if_neg hb, Nat.lt_succ_self j, h, fun i hi hel => ?_⟩
          rcases Nat.lt_or_ge i j with q | q
          · have := h4 i q hel
            omega
          · rw [show i = j by omega]
            exact Nat.le_refl _
    · rw [if_neg h]
      rcases ih with ⟨h1, h2⟩ | ⟨b, h1, h2, h3, h4⟩
      · refine .inl ⟨h1, fun i hi => ?_⟩
        rcases Nat.lt_or_ge i j with q | q
        · exact h2 i q
        · rw [show i = j by omega]
          exact Bool.not_eq_true _ ▸ h
      · refine .inr ⟨b, h1, by omega, h3, fun i hi hel => ?_⟩
        rcases Nat.lt_or_ge i j with q | q
        · exact h4 i q hel
        · rw [show i = j by omega] at hel
          exact absurd hel h
theorem next_ok {M : St} {n m : Nat} {lg : Nat → CH} {tm mk bt : Nat → Nat} {s : Option Nat} (hl : LOGM M n lg tm mk bt) (hw : LOGW n lg tm mk bt) (hm : m < 2) (hs : ∀ t, s = some t → t < 1000) : X6_next M (nI m) (oI s) = some (oI (nA bt m (stp tm mk) s n)) := by
  have h40 := hw.1
  unfold X6_next X6_next_L5
  refine wl_for0 (f := fun a' : (Int32 × Int32 × Int32 × Int32) => X6_next_H5 M a'.1 a'.2.1 a'.2.2.1 a'.2.2.2) (N := n) (fun j => (nI m, oI s, oI (nA bt m (stp tm mk) s j), nI j)) (fun j hj => ?_) ?_ (by omega)
  · obtain ⟨_, l9, l10, l11⟩ := hl.2 j hj
    obtain ⟨_, b1, b2, b3⟩ := hw.2.1 j hj
    show X6_next_H5 M (nI m) (oI s) (oI (nA bt m (stp tm mk) s j)) (nI j) = some (.inl (nI m, oI s, oI (if el bt m (stp tm mk) s j = true then (match nA bt m (stp tm mk) s j with | none => some j | some b => if stp tm mk b ≤ stp tm mk j then some b else some j) else nA bt m (stp tm mk) s j), nI (j + 1)))
    have keep : ∀ z, X6_next_b101 M (nI m) (oI s) z (nI j) = some (.inl (nI m, oI s, z, nI (j + 1))) := fun z => by
      unfold X6_next_b101 X6_next_b102
      rw [nI_succ]
    have take : X6_next_b96 M (nI m) (oI s) (nI j) = some (.inl (nI m, oI s, nI j, nI (j + 1))) := by
      unfold X6_next_b96 X6_next_b102
      rw [nI_succ]
    have k49 : ∀ z, X6_next_b49 M (nI m) (oI s) z (nI j) = some (.inl (nI m, oI s, z, nI (j + 1))) := fun z => by
      unfold X6_next_b49 X6_next_b50
      rw [if_pos rfl, keep]
    have k50 : X6_next_b50 M (nI m) (oI s) (oI (nA bt m (stp tm mk) s j)) (nI j) 1 = some (.inl (nI m, oI s, oI (match nA bt m (stp tm mk) s j with | none => some j | some b => if stp tm mk b ≤ stp tm mk j then some b else some j), nI (j + 1))) := by
      unfold X6_next_b50
      rw [if_neg (by decide)]
      rcases nA_sp (bt := bt) (m := m) (st := stp tm mk) (s := s) j with ⟨h1, _⟩ | ⟨b, h1, h2, _, _⟩
      · rw [h1, if_pos (show oI none < 0 by decide), take]
        rfl
      · obtain ⟨_, l9', l10', _⟩ := hl.2 b (by omega)
        obtain ⟨_, b1', b2', _⟩ := hw.2.1 b (by omega)
        rw [h1, oI_s, if_neg (nI_pos (by omega)), if_pos (in40 (by omega)), if_pos (in40 (by omega)), if_pos (in40 (by omega)), if_pos (in40 (by omega)), clN (show b < 1000 by omega), clN (show j < 1000 by omega), l9', l10', l9, l10, ix2, ix2]
        show _ = some (Sum.inl (nI m, oI s, oI (if stp tm mk b ≤ stp tm mk j then some b else some j), nI (j + 1)))
        by_cases hb : stp tm mk b ≤ stp tm mk j
        · rw [if_pos (show nI (2 * tm b + mk b) ≤ nI (2 * tm j + mk j) from nI_le hb (by omega)), if_pos hb, keep]
          rfl
        · rw [if_neg (show ¬ nI (2 * tm b + mk b) ≤ nI (2 * tm j + mk j) from nI_ge (by unfold stp at hb; omega) (by omega)), if_neg hb, take]
          rfl
    unfold X6_next_H5
    rw [hl.1, if_neg (nI_ge hj (by omega)), knowsM_ok (by omega) l11 b3 hm, bs]
    cases hk : (bt j).testBit m
    · rw [if_pos bit0, if_neg (fun q => by rw [el, hk] at q; exact absurd q (by simp)), k49]
    · rw [if_neg bit1, if_pos (in40 (by omega)), if_pos (in40 (by omega)), clN (show j < 1000 by omega), l9, l10, ix2]
      by_cases ho : over s (stp tm mk j) = true
      · rw [if_neg (show ¬ nI (2 * tm j + mk j) ≤ oI s from fun q => (le_oI hs (by omega)).mp q ho), if_pos (show el bt m (stp tm mk) s j = true by rw [el, hk, ho]; rfl), k50]
      · rw [if_pos (show nI (2 * tm j + mk j) ≤ oI s from (le_oI hs (by omega)).mpr ho), if_neg (fun q => by rw [el, hk] at q; exact ho q), k49]
  · show X6_next_H5 M (nI m) (oI s) (oI (nA bt m (stp tm mk) s n)) (nI n) = _
    unfold X6_next_H5
    rw [hl.1, if_pos (nI_le (Nat.le_refl n) (by omega))]
    rfl
theorem so_idx_lt {st : Nat → Nat} : ∀ (L : List Nat), SO st L → ∀ (i k a b : Nat), i < k → L[i]? = some a → L[k]? = some b → st a < st b
  | [], _, i, k, a, b, _, e, _ => nomatch e
  | x :: t, so, i, k, a, b, h, e1, e2 => by
    cases k with
    | zero => omega
    | succ k =>
      have e2' : t[k]? = some b := e2
      cases i with
      | zero => rw [← Option.some.inj e1]; exact so.head b (List.mem_of_getElem? e2')
      | succ i => exact so_idx_lt t so.tail i k a b (by omega) e1 e2'
def thr (st : Nat → Nat) (L : List Nat) : Nat → Option Nat
  | 0 => none
  | i + 1 => (L[i]?).map st
theorem nA_list {n m : Nat} {lg : Nat → CH} {tm mk bt : Nat → Nat} {L : List Nat} (hw : LOGW n lg tm mk bt) (hk : KN n bt m (stp tm mk) L) (i : Nat) (hi : i ≤ L.length) : nA bt m (stp tm mk) (thr (stp tm mk) L i) n = L[i]? := by
  have up' : ∀ d k, L[k]? = some d → i ≤ k → over (thr (stp tm mk) L i) (stp tm mk d) = true := fun d k hd hik => by
    cases i with
    | zero => rfl
    | succ i =>
      obtain ⟨a, ha, _⟩ := get_lt (L := L) (i := i) (by omega)
      show over ((L[i]?).map (stp tm mk)) (stp tm mk d) = true
      rw [ha]
      exact decide_eq_true (so_idx_lt L hk.1 i k a d (by omega) ha hd)
  have dn : ∀ d k, L[k]? = some d → over (thr (stp tm mk) L i) (stp tm mk d) = true → i ≤ k := fun d k hd ho => by
    cases i with
    | zero => exact Nat.zero_le k
    | succ i =>
      obtain ⟨a, ha, _⟩ := get_lt (L := L) (i := i) (by omega)
      have ho' : over ((L[i]?).map (stp tm mk)) (stp tm mk d) = true := ho
      rw [ha] at ho'
      have hlt : stp tm mk a < stp tm mk d := of_decide_eq_true ho'
      rcases Nat.lt_or_ge i k with q | q
      · exact q
      · rcases Nat.lt_or_ge k i with q2 | q2
        · have := so_idx_lt L hk.1 k i d a q2 hd ha
          omega
        · rw [show k = i by omega, ha] at hd
          rw [Option.some.inj hd] at hlt
          omega
  rcases nA_sp (bt := bt) (m := m) (st := stp tm mk) (s := thr (stp tm mk) L i) n with ⟨h1, h2⟩ | ⟨b, h1, h2, h3, h4⟩
  · rw [h1]
    cases hL : L[i]? with
    | none => rfl
    | some c =>
      have hc := (hk.2 c).mp (List.mem_of_getElem? hL)
      have := h2 c hc.1
      rw [el, hc.2, up' c i hL (Nat.le_refl i)] at this
      exact absurd this (by decide)
  · rw [h1]
    have hb : (bt b).testBit m = true ∧ over (thr (stp tm mk) L i) (stp tm mk b) = true := by
      rw [el, Bool.and_eq_true] at h3
      exact h3
    have hbL := (hk.2 b).mpr ⟨h2, hb.1⟩
    obtain ⟨k, hk1, hk2⟩ := List.mem_iff_getElem.mp hbL
    have hkb : L[k]? = some b := by rw [List.getElem?_eq_getElem hk1, hk2]
    have hik := dn b k hkb hb.2
    obtain ⟨c, hc, hcm⟩ := get_lt (L := L) (i := i) (by omega)
    have hc' := (hk.2 c).mp hcm
    have hle := h4 c hc'.1 (by rw [el, hc'.2, up' c i hc (Nat.le_refl i)]; rfl)
    rcases Nat.lt_or_ge i k with q | q
    · have := so_idx_lt L hk.1 i k c b q hc hkb
      omega
    · rw [show i = k by omega, hkb]
theorem RM.fr {M U : St} {T : AT} (h : RM M T) (hf : ∀ k, 18 ≤ k → k < 23 → U k = M k) : RM U T := ⟨fun k hk => by rw [hf 18 (by decide) (by decide)]; exact h.1 k hk, fun k hk a b => by rw [hf 19 (by decide) (by decide)]; exact h.2.1 k hk a b, fun k hk => by rw [hf 20 (by decide) (by decide)]; exact h.2.2.1 k hk, fun k hk => by rw [hf 21 (by decide) (by decide)]; exact h.2.2.2.1 k hk, fun k hk => by rw [hf 22 (by decide) (by decide)]; exact h.2.2.2.2 k hk⟩
theorem LMj.fr {S U : St} {j : Nat} {c : CH} (h : LMj S j c) (hf : ∀ k, 1 ≤ k → k < 18 → U k = S k) : LMj U j c := by
  unfold LMj
  rw [hf 3 (by decide) (by decide), hf 4 (by decide) (by decide), hf 5 (by decide) (by decide), hf 6 (by decide) (by decide), hf 7 (by decide) (by decide), hf 8 (by decide) (by decide)]
  exact h
theorem LOGM.fr {M U : St} {n : Nat} {lg : Nat → CH} {tm mk bt : Nat → Nat} (h : LOGM M n lg tm mk bt) (h0 : U 0 2 = M 0 2) (hf : ∀ k, 1 ≤ k → k < 18 → U k = M k) : LOGM U n lg tm mk bt := ⟨h0.trans h.1, fun c hc => ⟨(h.2 c hc).1.fr hf, by rw [hf 9 (by decide) (by decide), hf 10 (by decide) (by decide), hf 11 (by decide) (by decide)]; exact (h.2 c hc).2⟩⟩
theorem LOGM.fm {M U : St} {n : Nat} {lg : Nat → CH} {tm mk bt : Nat → Nat} (h : LOGM M n lg tm mk bt) (hf : FM M U) : LOGM U n lg tm mk bt := h.fr (by rw [hf 0 (by omega)]) (fun k a b => hf k (.inl b))
theorem KN.len {n m : Nat} {bt st : Nat → Nat} {L : List Nat} (h : KN n bt m st L) (hn : n ≤ 40) : L.length ≤ 40 := by
  rcases Nat.lt_or_ge 40 L.length with q | q
  · exfalso
    obtain ⟨i, j, a, b, e⟩ := php 40 (fun i => (L[i]?).getD 0) (fun i hi => by
      obtain ⟨c, hc, hcm⟩ := get_lt (L := L) (i := i) (by omega)
      show (L[i]?).getD 0 < 40
      rw [hc]
      have := ((h.2 c).mp hcm).1
      exact Nat.lt_of_lt_of_le this hn)
    obtain ⟨c, hc, _⟩ := get_lt (L := L) (i := i) (by omega)
    obtain ⟨d, hd, _⟩ := get_lt (L := L) (i := j) (by omega)
    have e' : (L[i]?).getD 0 = (L[j]?).getD 0 := e
    rw [hc, hd] at e'
    have e'' : c = d := e'
    have := so_idx_lt L h.1 i j c d a hc hd
    rw [e''] at this
    omega
  · exact q
theorem KN.wkl {n m : Nat} {lg : Nat → CH} {tm mk bt : Nat → Nat} {L : List Nat} (h : KN n bt m (stp tm mk) L) (hw : LOGW n lg tm mk bt) : WKL n lg L := ⟨h.1.nodup, fun c hc => ⟨((h.2 c).mp hc).1, (hw.2.1 c ((h.2 c).mp hc).1).1⟩⟩
theorem growLoop {M : St} {n m : Nat} {lg : Nat → CH} {tm mk bt : Nat → Nat} {N A : Nat → Nat} {L : List Nat} (hl : LOGM M n lg tm mk bt) (hw : LOGW n lg tm mk bt) (hm : m < 2) (hk : KN n bt m (stp tm mk) L) (hA : RCL M 1 2 N A) (h : RM M T0) : ∃ M', X6_grows_b92 M (nI m) = some M' ∧ RM M' (repl A lg L) ∧ FM M M' := by
  have h40 := hw.1
  have hlen := hk.len h40
  have w := hk.wkl hw
  have bnd : ∀ i t, thr (stp tm mk) L i = some t → t < 1000 := fun i t ht => by
    cases i with
    | zero => exact nomatch ht
    | succ i =>
      have ht' : (L[i]?).map (stp tm mk) = some t := ht
      cases hL : L[i]? with
      | none => rw [hL] at ht'; exact nomatch ht'
      | some c =>
        rw [hL] at ht'
        have hc := (hk.2 c).mp (List.mem_of_getElem? hL)
        have hb := hw.2.1 c hc.1
        rw [← Option.some.inj ht']
        unfold stp
        omega
  unfold X6_grows_b92
  rw [show (-1 : Int32) = oI (thr (stp tm mk) L 0) from rfl, next_ok hl hw hm (bnd 0), bs, nA_list hw hk 0 (Nat.zero_le _)]
  unfold X6_grows_L101
  refine wl_inv (f := fun a' : (St × Int32 × Int32) => X6_grows_H101 a'.1 a'.2.1 a'.2.2) (N := L.length) (Q := fun M' => RM M' (repl A lg L) ∧ FM M M') (fun i a => ∃ U, a = (U, nI m, oI L[i]?) ∧ RM U (repl A lg (L.take i)) ∧ FM M U) (by omega) ?_ ?_ ⟨M, rfl, h, FM.rfl' M⟩
  · rintro i a hi ⟨U, rfl, h1, h2⟩
    obtain ⟨d, hd, hdm⟩ := get_lt hi
    have hd' := (hk.2 d).mp hdm
    have ht : L.take (i + 1) = L.take i ++ [d] := by rw [List.take_succ, hd]; rfl
    have w1 : WKL n lg (L.take i ++ [d]) := by
      rw [← ht]
      refine WKL.pre (L2 := L.drop (i + 1)) ?_
      rw [List.take_append_drop]
      exact w
    obtain ⟨r1, r2, _⟩ := repl_WF (A := A) w1.pre
    have hlU := hl.fm h2
    obtain ⟨S', e, e1, e2⟩ := does_ok (N := N) (A := A) (show d < 40 by omega) (hlU.2 d hd'.1).1 (w.2 d hdm).2 r1 r2 (hA.fr (h2 1 (by omega)) (h2 2 (by omega))) h1
    have hlV := hlU.fm e2
    obtain ⟨_, l9, l10, _⟩ := hlV.2 d hd'.1
    show ∃ a', X6_grows_H101 U (nI m) (oI L[i]?) = some (.inl a') ∧ _
    have hth : nI (2 * tm d + mk d) = oI (thr (stp tm mk) L (i + 1)) := by
      show _ = oI ((L[i]?).map (stp tm mk))
      rw [hd]
      rfl
    unfold X6_grows_H101 X6_grows_b110
    rw [hd, oI_s, if_neg (nI_pos (by omega)), e, bs, if_pos (in40 (by omega)), if_pos (in40 (by omega)), clN (by omega), l9, l10, ix2, hth, next_ok hlV hw hm (bnd (i + 1)), bs, nA_list hw hk (i + 1) (by omega)]
    refine ⟨_, rfl, S', rfl, ?_, h2.trans e2⟩
    rw [ht, repl_snoc]
    exact e1
  · rintro a ⟨U, rfl, h1, h2⟩
    rw [List.take_length] at h1
    show ∃ r, X6_grows_H101 U (nI m) (oI L[L.length]?) = some (.inr r) ∧ _
    rw [List.getElem?_eq_none (Nat.le_refl _)]
    unfold X6_grows_H101 X6_grows_b136
    rw [if_pos (show oI none < 0 by decide)]
    exact ⟨U, rfl, h1, h2⟩
theorem grows_ok {M : St} {n m : Nat} {lg : Nat → CH} {tm mk bt : Nat → Nat} {N A : Nat → Nat} {L : List Nat} (hl : LOGM M n lg tm mk bt) (hw : LOGW n lg tm mk bt) (hm : m < 2) (hk : KN n bt m (stp tm mk) L) (hA : RCL M 1 2 N A) : ∃ M', X6_grows M (nI m) = some M' ∧ RM M' (repl A lg L) ∧ FM M M' := by
  unfold X6_grows X6_grows_L2
  refine wl_inv (f := fun a' : (St × Int32 × Int32) => X6_grows_H2 a'.1 a'.2.1 a'.2.2) (N := 42) (Q := fun M' => RM M' (repl A lg L) ∧ FM M M') (fun j a => ∃ U, a = (U, nI m, nI j) ∧ (∀ k, k < 18 ∨ 22 ≤ k → U k = M k) ∧ ∀ i, i < j → U 18 i = bI (decide (i < 2)) ∧ U 19 i = (if i = 1 then 0 else -1) ∧ U 20 i = oI (if i = 1 then some 99 else none) ∧ U 21 i = 0) (by decide) ?_ ?_ ⟨M, rfl, fun _ _ => rfl, fun i hi => absurd hi (Nat.not_lt_zero i)⟩
  · rintro j a hj ⟨U, rfl, hf, hg⟩
    show ∃ a', X6_grows_H2 U (nI m) (nI j) = some (.inl a') ∧ _
    have go : X6_grows_H2 U (nI m) (nI j) = some (.inl (up (up (up (up U 18 (upd (U 18) j (bI (decide (j < 2))))) 19 (upd (U 19) j (if j = 1 then 0 else -1))) 20 (upd (U 20) j (oI (if j = 1 then some 99 else none)))) 21 (upd (U 21) j 0), nI m, nI (j + 1))) := by
      have t57 : ∀ V : St, V 21 = U 21 → X6_grows_b57 V (nI m) (nI j) = some (.inl (up V 21 (upd (U 21) j 0), nI m, nI (j + 1))) := fun V e => by
        unfold X6_grows_b57 X6_grows_b64
        rw [if_pos (in42 hj), cl42 hj, nI_succ, e]
      have t40 : ∀ V : St, V 20 = U 20 → V 21 = U 21 → X6_grows_b40 V (nI m) (nI j) = some (.inl (up (up V 20 (upd (U 20) j (oI (if j = 1 then some 99 else none)))) 21 (upd (U 21) j 0), nI m, nI (j + 1))) := fun V e e' => by
        unfold X6_grows_b40 X6_grows_b56
        by_cases h : j = 1
        · rw [if_pos (show nI j = 1 by rw [h]; rfl), if_pos (in42 hj), cl42 hj, t57 _ (by rw [up_n (by decide), e']), if_pos h, e]
          rfl
        · rw [if_neg (show ¬ nI j = 1 from fun q => h ((nI_eq (b := 1) (by omega) (by decide)).mp q)), if_pos (in42 hj), cl42 hj, t57 _ (by rw [up_n (by decide), e']), if_neg h, e]
          rfl
      have t24 : ∀ V : St, V 19 = U 19 → V 20 = U 20 → V 21 = U 21 → X6_grows_b24 V (nI m) (nI j) = some (.inl (up (up (up V 19 (upd (U 19) j (if j = 1 then 0 else -1))) 20 (upd (U 20) j (oI (if j = 1 then some 99 else none)))) 21 (upd (U 21) j 0), nI m, nI (j + 1))) := fun V e e' e2 => by
        unfold X6_grows_b24 X6_grows_b39
        by_cases h : j = 1
        · rw [if_pos (show nI j = 1 by rw [h]; rfl), if_pos (in42 hj), cl42 hj, t40 _ (by rw [up_n (by decide), e']) (by rw [up_n (by decide), e2]), if_pos h, if_pos h, e]
        · rw [if_neg (show ¬ nI j = 1 from fun q => h ((nI_eq (b := 1) (by omega) (by decide)).mp q)), if_pos (in42 hj), cl42 hj, t40 _ (by rw [up_n (by decide), e']) (by rw [up_n (by decide), e2]), if_neg h, if_neg h, e]
      unfold X6_grows_H2 X6_grows_b23
      rw [if_neg (ge42 hj)]
      by_cases h2 : 2 ≤ j
      · rw [if_pos (show (2 : Int32) ≤ nI j from nI_le (a := 2) h2 (by omega)), if_pos (in42 hj), cl42 hj, nar0, t24 _ (up_n (by decide)) (up_n (by decide)) (up_n (by decide)), decide_eq_false (show ¬ j < 2 by omega)]
        rfl
      · rw [if_neg (show ¬ (2 : Int32) ≤ nI j from nI_ge (b := 2) (by omega) (by decide)), if_pos (in42 hj), cl42 hj, nar1, t24 _ (up_n (by decide)) (up_n (by decide)) (up_n (by decide)), decide_eq_true (show j < 2 by omega)]
        rfl
    rw [go]
    refine ⟨_, rfl, _, rfl, fun k hk => ?_, fun i hi => ⟨?_, ?_, ?_, ?_⟩⟩
    · rw [up_n (by omega), up_n (by omega), up_n (by omega), up_n (by omega), hf k hk]
    · rw [up_n (by decide), up_n (by decide), up_n (by decide), up_s]
      by_cases h : i = j
      · rw [h, upd_s]
      · rw [upd_n h]; exact (hg i (by omega)).1
    · rw [up_n (by decide), up_n (by decide), up_s]
      by_cases h : i = j
      · rw [h, upd_s]
      · rw [upd_n h]; exact (hg i (by omega)).2.1
    · rw [up_n (by decide), up_s]
      by_cases h : i = j
      · rw [h, upd_s]
      · rw [upd_n h]; exact (hg i (by omega)).2.2.1
    · rw [up_s]
      by_cases h : i = j
      · rw [h, upd_s]
      · rw [upd_n h]; exact (hg i (by omega)).2.2.2
  · rintro a ⟨U, rfl, hf, hg⟩
    show ∃ r, X6_grows_H2 U (nI m) (nI 42) = some (.inr r) ∧ _
    unfold X6_grows_H2 X6_grows_b70 X6_grows_L72
    rw [if_pos le42]
    have key : ∃ r, wloop (fun a' : (St × Int32 × Int32) => X6_grows_H72 a'.1 a'.2.1 a'.2.2) 1000 (U, nI m, 0) = some r ∧ RM r (repl A lg L) ∧ FM M r := by
      refine wl_inv (N := 168) (fun j a => ∃ V : St, a = (V, nI m, nI j) ∧ (∀ k, k ≠ 22 → V k = U k) ∧ ∀ i, i < j → V 22 i = -1) (by decide) ?_ ?_ ⟨U, rfl, fun _ _ => rfl, fun i hi => absurd hi (Nat.not_lt_zero i)⟩
      · rintro j a hj ⟨V, rfl, vf, vg⟩
        show ∃ a', X6_grows_H72 V (nI m) (nI j) = some (.inl a') ∧ _
        unfold X6_grows_H72 X6_grows_b86
        rw [if_neg (ge168 hj), if_pos (in168 hj), clN (by omega), ← nI_succ]
        refine ⟨_, rfl, _, rfl, fun k hk => (up_n hk).trans (vf k hk), fun i hi => ?_⟩
        rw [up_s]
        by_cases h : i = j
        · rw [h, upd_s]
        · rw [upd_n h]; exact vg i (by omega)
      · rintro a ⟨V, rfl, vf, vg⟩
        show ∃ r, X6_grows_H72 V (nI m) (nI 168) = some (.inr r) ∧ _
        unfold X6_grows_H72
        rw [if_pos le168]
        have hFV : FM M V := fun k hk => (vf k (by omega)).trans (hf k (by omega))
        have hV : RM V T0 := by
          refine ⟨fun k hk => ?_, fun k hk _ ht => ?_, fun k hk => ?_, fun k hk => ?_, fun k hk => ?_⟩
          · rw [vf 18 (by decide)]; exact (hg k hk).1
          · rw [vf 19 (by decide), (hg k hk).2.1]
            have hk2 : k < 2 := of_decide_eq_true ht
            unfold paM
            by_cases h : k = 1
            · rw [h]; rfl
            · rw [if_neg h, if_pos (by omega)]
          · rw [vf 20 (by decide), (hg k hk).2.2.1]; rfl
          · rw [vf 21 (by decide), (hg k hk).2.2.2]; rfl
          · rw [vg k hk]; rfl
        obtain ⟨M', e, e1, e2⟩ := growLoop (N := N) (A := A) (hl.fm hFV) hw hm hk (hA.fr (hFV 1 (by omega)) (hFV 2 (by omega))) hV
        rw [e]
        exact ⟨M', rfl, e1, hFV.trans e2⟩
    obtain ⟨r, e, e1⟩ := key
    exact ⟨r, by rw [show ((0 : Int32)) = 0 from rfl, e]; rfl, e1⟩
