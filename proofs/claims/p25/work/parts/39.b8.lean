/-! PURE 8: the list of known changes -/
def KE (S : St) (L : List Nat) : Prop := S 0 4 = nI L.length ∧ ∀ i c, L[i]? = some c → S 1 i = nI c
def SO (st : Nat → Nat) (L : List Nat) : Prop := L.Pairwise (fun a b => st a < st b)
def insL (st : Nat → Nat) (c : Nat) : List Nat → List Nat
  | [] => [c]
  | a :: t => if st c < st a then c :: a :: t else a :: insL st c t
def posL (st : Nat → Nat) (c : Nat) : List Nat → Nat
  | [] => 0
  | a :: t => if st c < st a then 0 else posL st c t + 1
theorem posL_le (st : Nat → Nat) (c : Nat) : ∀ L, posL st c L ≤ L.length
  | [] => Nat.le_refl 0
  | a :: t => by
    show (if st c < st a then 0 else posL st c t + 1) ≤ t.length + 1
    have := posL_le st c t
    split <;> omega
theorem posL_lo {st : Nat → Nat} {c : Nat} : ∀ (L : List Nat) (i a : Nat), i < posL st c L → L[i]? = some a → ¬ st c < st a
  | [], i, a, h, _ => absurd h (Nat.not_lt_zero i)
  | b :: t, i, a, h, e => by
    have h' : i < if st c < st b then 0 else posL st c t + 1 := h
    by_cases hb : st c < st b
    · rw [if_pos hb] at h'; omega
    · rw [if_neg hb] at h'
      cases i with
      | zero => rw [← Option.some.inj e]; exact hb
      | succ i => exact posL_lo t i a (by omega) e
theorem SO.tail {st : Nat → Nat} {a : Nat} {t : List Nat} (h : SO st (a :: t)) : SO st t := (List.pairwise_cons.mp h).2
theorem SO.head {st : Nat → Nat} {a : Nat} {t : List Nat} (h : SO st (a :: t)) : ∀ b, b ∈ t → st a < st b := (List.pairwise_cons.mp h).1
theorem posL_hi {st : Nat → Nat} {c : Nat} : ∀ (L : List Nat), SO st L → ∀ (i a : Nat), posL st c L ≤ i → L[i]? = some a → st c < st a
  | [], _, i, a, _, e => nomatch e
  | b :: t, so, i, a, h, e => by
    have h' : (if st c < st b then 0 else posL st c t + 1) ≤ i := h
    by_cases hb : st c < st b
    · cases i with
      | zero => rw [← Option.some.inj e]; exact hb
      | succ i => exact Nat.lt_trans hb (so.head a (List.mem_of_getElem? (show t[i]? = some a from e)))
    · rw [if_neg hb] at h'
      cases i with
      | zero => omega
      | succ i => exact posL_hi t so.tail i a (by omega) e
theorem insL_len (st : Nat → Nat) (c : Nat) : ∀ L, (insL st c L).length = L.length + 1
  | [] => rfl
  | a :: t => by
    show (if st c < st a then c :: a :: t else a :: insL st c t).length = t.length + 1 + 1
    split
    · rfl
    · show (insL st c t).length + 1 = t.length + 1 + 1
      rw [insL_len st c t]
theorem insL_lo (st : Nat → Nat) (c : Nat) : ∀ (L : List Nat) i, i < posL st c L → (insL st c L)[i]? = L[i]?
  | [], i, h => absurd h (Nat.not_lt_zero i)
  | a :: t, i, h => by
    have h' : i < if st c < st a then 0 else posL st c t + 1 := h
    show (if st c < st a then c :: a :: t else a :: insL st c t)[i]? = (a :: t)[i]?
    by_cases hb : st c < st a
    · rw [if_pos hb] at h'; omega
    · rw [if_neg hb] at h' ⊢
      cases i with
      | zero => rfl
      | succ i => exact insL_lo st c t i (by omega)
theorem insL_at (st : Nat → Nat) (c : Nat) : ∀ (L : List Nat), (insL st c L)[posL st c L]? = some c
  | [] => rfl
  | a :: t => by
    show (if st c < st a then c :: a :: t else a :: insL st c t)[if st c < st a then 0 else posL st c t + 1]? = some c
    split
    · rfl
    · exact insL_at st c t
theorem insL_hi (st : Nat → Nat) (c : Nat) : ∀ (L : List Nat) i, posL st c L ≤ i → (insL st c L)[i + 1]? = L[i]?
  | [], i, _ => by cases i <;> rfl
  | a :: t, i, h => by
    have h' : (if st c < st a then 0 else posL st c t + 1) ≤ i := h
    show (if st c < st a then c :: a :: t else a :: insL st c t)[i + 1]? = (a :: t)[i]?
    by_cases hb : st c < st a
    · rw [if_pos hb]; rfl
    · rw [if_neg hb] at h' ⊢
      cases i with
      | zero => omega
      | succ i => exact insL_hi st c t i (by omega)
theorem insL_mem (st : Nat → Nat) (c x : Nat) : ∀ L, x ∈ insL st c L ↔ x = c ∨ x ∈ L
  | [] => by
    show x ∈ [c] ↔ _
    simp
  | a :: t => by
    show x ∈ (if st c < st a then c :: a :: t else a :: insL st c t) ↔ _
    split
    · simp
    · rw [List.mem_cons, insL_mem st c x t, List.mem_cons]
      constructor
      · rintro (h | h | h)
        · exact .inr (.inl h)
        · exact .inl h
        · exact .inr (.inr h)
      · rintro (h | h | h)
        · exact .inr (.inl h)
        · exact .inl h
        · exact .inr (.inr h)
theorem insL_SO {st : Nat → Nat} {c : Nat} : ∀ L, SO st L → (∀ d, d ∈ L → st d ≠ st c) → SO st (insL st c L)
  | [], _, _ => List.pairwise_singleton _ _
  | a :: t, so, h => by
    show SO st (if st c < st a then c :: a :: t else a :: insL st c t)
    by_cases hb : st c < st a
    · rw [if_pos hb]
      refine List.pairwise_cons.mpr ⟨fun b hb' => ?_, so⟩
      rcases List.mem_cons.mp hb' with rfl | q
      · exact hb
      · exact Nat.lt_trans hb (so.head b q)
    · rw [if_neg hb]
      refine List.pairwise_cons.mpr ⟨fun b hb' => ?_, insL_SO t so.tail (fun d hd => h d (List.mem_cons.mpr (.inr hd)))⟩
      rcases (insL_mem st c b t).mp hb' with rfl | q
      · have := h a (List.mem_cons.mpr (.inl rfl))
        omega
      · exact so.head b q
theorem SO.nodup {st : Nat → Nat} {L : List Nat} (h : SO st L) : L.Nodup := h.imp (fun q r => by rw [r] at q; exact Nat.lt_irrefl _ q)
theorem insL_end {st : Nat → Nat} {c : Nat} : ∀ L, posL st c L = L.length → insL st c L = L ++ [c]
  | [], _ => rfl
  | a :: t, h => by
    have h' : (if st c < st a then 0 else posL st c t + 1) = t.length + 1 := h
    show (if st c < st a then c :: a :: t else a :: insL st c t) = a :: (t ++ [c])
    by_cases hb : st c < st a
    · rw [if_pos hb] at h'; omega
    · rw [if_neg hb] at h' ⊢
      rw [insL_end t (by omega)]
theorem get_lt {L : List Nat} {i : Nat} (h : i < L.length) : ∃ a, L[i]? = some a ∧ a ∈ L := ⟨L[i], List.getElem?_eq_getElem h, List.getElem_mem h⟩
theorem putInOrder_ok {S : St} {L : List Nat} {st : Nat → Nat} {c : Nat} (hK : KE S L) (hlen : L.length < 40) (hst : ∀ d, d = c ∨ d ∈ L → d < 40 ∧ S 16 d = nI (st d) ∧ st d < 1000) (so : SO st L) : ∃ S', X4_putInOrder S (nI c) = some (nI (posL st c L), S') ∧ KE S' (insL st c L) ∧ (∀ k, k ≠ 0 → k ≠ 1 → S' k = S k) ∧ ∀ j, j ≠ 4 → S' 0 j = S 0 j := by
  have hq := posL_le st c L
  have sat : ∀ (U : St) d, U 16 = S 16 → (d = c ∨ d ∈ L) → X2_stampAt U (nI d) = some (nI (st d)) := fun U d hU hd => by
    unfold X2_stampAt
    rw [at_in (hst d hd).1 (by decide), bs, hU, (hst d hd).2.1]
  have key : ∃ r, wloop (fun a' : (St × Int32 × Int32) => X4_putInOrder_H5 a'.1 a'.2.1 a'.2.2) 1000 (S, nI c, S 0 4) = some r ∧ (r.1 = nI (posL st c L) ∧ KE r.2 (insL st c L) ∧ (∀ k, k ≠ 0 → k ≠ 1 → r.2 k = S k) ∧ ∀ j, j ≠ 4 → r.2 0 j = S 0 j) := by
    refine wl_inv (N := L.length - posL st c L) (fun s a => ∃ U : St, a = (U, nI c, nI (L.length - s)) ∧ (∀ k, k ≠ 1 → U k = S k) ∧ (∀ i, i < L.length - s → U 1 i = S 1 i) ∧ (∀ i, L.length - s < i → i ≤ L.length → U 1 i = S 1 (i - 1))) (by omega) ?_ ?_ ⟨S, by rw [hK.1]; rfl, fun _ _ => rfl, fun _ _ => rfl, fun i a b => absurd a (by omega)⟩
    · rintro s a hs ⟨U, rfl, hf, hlo, hhi⟩
      obtain ⟨j, hj⟩ : ∃ j, L.length - s = j + 1 := ⟨L.length - s - 1, by omega⟩
      rw [hj] at hlo hhi ⊢
      obtain ⟨b, hb, hbm⟩ := get_lt (L := L) (i := j) (by omega)
      have h1 : U 1 j = nI b := by rw [hlo j (by omega)]; exact hK.2 j b hb
      have hlt := posL_hi (st := st) (c := c) L so j b (by omega) hb
      have hsb := (hst b (.inr hbm)).2.2
      show ∃ a', X4_putInOrder_H5 U (nI c) (nI (j + 1)) = some (.inl a') ∧ _
      unfold X4_putInOrder_H5 X4_putInOrder_b55
      rw [if_neg (nI_nle (by omega) (by omega)), nI_pred, at_in (by omega) (by decide), bs, h1, sat U b (hf 16 (by decide)) (.inr hbm), bs, sat U c (hf 16 (by decide)) (.inl rfl), bs, if_neg (nI_ge hlt (by omega)), bs, put_in (by omega) (by decide), bs, pk_m1]
      refine ⟨_, rfl, _, by rw [show L.length - (s + 1) = j by omega], fun k hk => (up_n hk).trans (hf k hk), fun i hi => ?_, fun i a b' => ?_⟩
      · rw [up_s, upd_n (by omega)]; exact hlo i (by omega)
      · rw [up_s]
        by_cases h : i = j + 1
        · rw [h, upd_s, Nat.add_sub_cancel, ← hlo j (by omega), h1]
        · rw [upd_n h]; exact hhi i (by omega) b'
    · rintro a ⟨U, rfl, hf, hlo, hhi⟩
      have hj : L.length - (L.length - posL st c L) = posL st c L := by omega
      rw [hj] at hlo hhi ⊢
      show ∃ r, X4_putInOrder_H5 U (nI c) (nI (posL st c L)) = some (.inr r) ∧ _
      have go : X4_putInOrder_H5 U (nI c) (nI (posL st c L)) = exI (X4_putInOrder_b61 U (nI c) (nI (posL st c L))) := by
        unfold X4_putInOrder_H5
        rcases Nat.eq_zero_or_pos (posL st c L) with h | h
        · rw [h, if_pos (by decide)]
        · obtain ⟨q, hq'⟩ : ∃ q, posL st c L = q + 1 := ⟨posL st c L - 1, by omega⟩
          rw [hq'] at hlo ⊢
          obtain ⟨b, hb, hbm⟩ := get_lt (L := L) (i := q) (by omega)
          have h1 : U 1 q = nI b := by rw [hlo q (by omega)]; exact hK.2 q b hb
          have hle := posL_lo (st := st) (c := c) L q b (by omega) hb
          have hsc := (hst c (.inl rfl)).2.2
          rw [if_neg (nI_nle (by omega) (by omega)), nI_pred, at_in (by omega) (by decide), bs, h1, sat U b (hf 16 (by decide)) (.inr hbm), bs, sat U c (hf 16 (by decide)) (.inl rfl), bs, if_pos (nI_le (by omega) (by omega))]
      rw [go]
      unfold X4_putInOrder_b61 X4_putInOrder_b70 X4_putInOrder_b80
      rw [put_in (by omega) (by decide), bs]
      generalize hV : up (up U 1 (upd (U 1) (posL st c L) (nI c))) 0 _ = V
      have v0 : V 0 = upd (S 0) 4 (S 0 4 + 1) := by rw [← hV, up_s, up_n (by decide), hf 0 (by decide)]
      have v1 : V 1 = upd (U 1) (posL st c L) (nI c) := by rw [← hV, up_n (by decide), up_s]
      have vf : ∀ k, k ≠ 0 → k ≠ 1 → V k = S k := fun k a b => by rw [← hV, up_n a, up_n b, hf k b]
      refine ⟨_, rfl, rfl, ⟨?_, fun i d hd => ?_⟩, vf, fun j hj => ?_⟩
      · show V 0 4 = _
        rw [v0, upd_s, hK.1, insL_len, nI_succ]
      · show V 1 i = _
        rw [v1]
        rcases Nat.lt_trichotomy i (posL st c L) with h | h | h
        · rw [insL_lo st c L i h] at hd
          rw [upd_n (by omega), hlo i h]
          exact hK.2 i d hd
        · rw [h, insL_at] at hd
          rw [h, upd_s, Option.some.inj hd]
        · obtain ⟨q, rfl⟩ : ∃ q, i = q + 1 := ⟨i - 1, by omega⟩
          rw [insL_hi st c L q (by omega)] at hd
          have hql : q < L.length := by
            rcases Nat.lt_or_ge q L.length with z | z
            · exact z
            · rw [List.getElem?_eq_none z] at hd
              exact nomatch hd
          rw [upd_n (by omega), hhi (q + 1) h (by omega)]
          exact hK.2 q d hd
      · show V 0 j = S 0 j
        rw [v0, upd_n hj]
  obtain ⟨⟨v, S'⟩, e, h1, h2⟩ := key
  have h1' : v = nI (posL st c L) := h1
  subst h1'
  exact ⟨S', e, h2⟩
theorem LEj.fr {S U : St} {j : Nat} {c : CH} (h : LEj S j c) (hf : ∀ k, 7 ≤ k → U k = S k) : LEj U j c := by
  unfold LEj
  rw [hf 15 (by decide), hf 17 (by decide), hf 18 (by decide), hf 19 (by decide), hf 20 (by decide)]
  exact h
theorem RCL.fr {S U : St} {a b : Nat} {N A : Nat → Nat} (h : RCL S a b N A) (ha : U a = S a) (hb : U b = S b) : RCL U a b N A := by
  unfold RCL
  rw [ha, hb]
  exact h
theorem learnLoop {S : St} {K : List Nat} {n : Nat} {lg : Nat → CH} {N A : Nat → Nat} (hK : KE S K) (hlen : K.length ≤ 40) (hl : ∀ d, d ∈ K → d < 40 ∧ LEj S d (lg d)) (w : WKL n lg K) (hA : RCL S 22 23 N A) {i : Nat} (hi : i ≤ K.length) (h : RE S (repl A lg (K.take i))) (hC : RC S (repl A lg (K.take i))) : ∃ S', X4_learn_L32 S (nI i) = some S' ∧ RE S' (repl A lg K) ∧ RC S' (repl A lg K) ∧ FE S S' := by
  unfold X4_learn_L32
  refine wl_inv (f := fun a' : (St × Int32) => X4_learn_H32 a'.1 a'.2) (N := K.length - i) (Q := fun S' => RE S' (repl A lg K) ∧ RC S' (repl A lg K) ∧ FE S S') (fun s a => ∃ U, a = (U, nI (i + s)) ∧ RE U (repl A lg (K.take (i + s))) ∧ RC U (repl A lg (K.take (i + s))) ∧ FE S U) (by omega) ?_ ?_ ⟨S, rfl, h, hC, FE.rfl' S⟩
  · rintro s a hs ⟨U, rfl, h1, h2, h3⟩
    obtain ⟨d, hd, hdm⟩ := get_lt (L := K) (i := i + s) (by omega)
    show ∃ a', X4_learn_H32 U (nI (i + s)) = some (.inl a') ∧ _
    have ht : K.take (i + s + 1) = K.take (i + s) ++ [d] := by rw [List.take_succ, hd]; rfl
    have w1 : WKL n lg (K.take (i + s) ++ [d]) := by
      rw [← ht]
      refine WKL.pre (L2 := K.drop (i + s + 1)) ?_
      rw [List.take_append_drop]
      exact w
    have hn : d ∉ K.take (i + s) := fun q => (List.nodup_append.mp w1.1).2.2 d q d (List.mem_singleton.mpr rfl) rfl
    have hWd := (w.2 d hdm).2
    obtain ⟨r1, r2, _⟩ := repl_WF (A := A) w1.pre
    obtain ⟨S', e, e1, e2, e3⟩ := perform_ok (N := N) (A := A) (hl d hdm).1 ((hl d hdm).2.fr (fun k hk => h3.1 k (.inr hk))) hWd r1 r2 (fun h0 => repl_fresh w1.pre hWd hn h0) (hA.fr (h3.1 22 (by omega)) (h3.1 23 (by omega))) h1 h2
    unfold X4_learn_H32 X4_learn_b56
    rw [h3.2 4 (by decide), hK.1, if_neg (nI_ge (by omega) (by omega)), if_neg (ge40 (by omega)), if_pos (in40 (by omega)), clN (by omega), h3.1 1 (.inl rfl), hK.2 _ d hd, e, bs, ← nI_succ]
    refine ⟨_, rfl, S', rfl, ?_, ?_, h3.trans e3⟩
    · show RE S' (repl A lg (K.take (i + s + 1)))
      rw [ht, repl_snoc]; exact e1
    · show RC S' (repl A lg (K.take (i + s + 1)))
      rw [ht, repl_snoc]; exact e2
  · rintro a ⟨U, rfl, h1, h2, h3⟩
    have hj : i + (K.length - i) = K.length := by omega
    rw [hj, List.take_length] at h1 h2
    rw [hj]
    show ∃ r, X4_learn_H32 U (nI K.length) = some (.inr r) ∧ _
    unfold X4_learn_H32 X4_learn_b62
    rw [h3.2 4 (by decide), hK.1, if_pos (nI_le (Nat.le_refl _) (by omega))]
    exact ⟨U, rfl, h1, h2, h3⟩
theorem KE.fr {S U : St} {L : List Nat} (h : KE S L) (hf : FE S U) : KE U L := ⟨(hf.2 4 (by decide)).trans h.1, fun i c q => by rw [hf.1 1 (.inl rfl)]; exact h.2 i c q⟩
theorem learn_ok {S : St} {L : List Nat} {st : Nat → Nat} {c n : Nat} {lg : Nat → CH} {N A : Nat → Nat} (hK : KE S L) (hlen : L.length < 40) (hst : ∀ d, d = c ∨ d ∈ L → d < 40 ∧ S 16 d = nI (st d) ∧ st d < 1000) (so : SO st (insL st c L)) (so' : SO st L) (hl : ∀ d, d = c ∨ d ∈ L → LEj S d (lg d) ∧ d < n ∧ WC d (lg d)) (hA : RCL S 22 23 N A) (h : RE S (repl A lg L)) (hC : RC S (repl A lg L)) : ∃ S', X4_learn S (nI c) = some S' ∧ KE S' (insL st c L) ∧ RE S' (repl A lg (insL st c L)) ∧ RC S' (repl A lg (insL st c L)) ∧ (∀ k, 7 ≤ k → S' k = S k) ∧ ∀ j, j ≠ 4 → j ≠ 10 → S' 0 j = S 0 j := by
  obtain ⟨S1, e1, k1, f1, g1⟩ := putInOrder_ok hK hlen hst so'
  have wk : WKL n lg (insL st c L) := ⟨so.nodup, fun d hd => (hl d ((insL_mem st c d L).mp hd)).2⟩
  have hl1 : ∀ d, d ∈ insL st c L → d < 40 ∧ LEj S1 d (lg d) := fun d hd => ⟨(hst d ((insL_mem st c d L).mp hd)).1, (hl d ((insL_mem st c d L).mp hd)).1.fr (fun k hk => f1 k (by omega) (by omega))⟩
  have hA1 : RCL S1 22 23 N A := hA.fr (f1 22 (by decide) (by decide)) (f1 23 (by decide) (by decide))
  have hq := posL_le st c L
  have hll := insL_len st c L
  have R1 : ∀ T, RE S T → RE S1 T := fun T q => ⟨fun k hk => by rw [f1 2 (by decide) (by decide)]; exact q.1 k hk, fun k hk hh => by rw [f1 3 (by decide) (by decide)]; exact q.2.1 k hk hh, fun k hk => by rw [f1 4 (by decide) (by decide)]; exact q.2.2.1 k hk, fun k hk => by rw [f1 5 (by decide) (by decide)]; exact q.2.2.2.1 k hk, fun k hk => by rw [f1 6 (by decide) (by decide)]; exact q.2.2.2.2 k hk⟩
  have fin : ∀ S2, RE S2 (repl A lg (insL st c L)) ∧ RC S2 (repl A lg (insL st c L)) ∧ FE S1 S2 → KE S2 (insL st c L) ∧ RE S2 (repl A lg (insL st c L)) ∧ RC S2 (repl A lg (insL st c L)) ∧ (∀ k, 7 ≤ k → S2 k = S k) ∧ ∀ j, j ≠ 4 → j ≠ 10 → S2 0 j = S 0 j := fun S2 q => ⟨k1.fr q.2.2, q.1, q.2.1, fun k hk => (q.2.2.1 k (.inr hk)).trans (f1 k (by omega) (by omega)), fun j a b => (q.2.2.2 j b).trans (g1 j a)⟩
  unfold X4_learn
  rw [hK.1, if_pos (show nI L.length < 40 from nI_lt (b := 40) hlen (by decide)), e1, bs]
  show ∃ S', X4_learn_b15 S1 (nI (posL st c L)) = some S' ∧ _
  unfold X4_learn_b15
  rw [k1.1, hll, nI_pred]
  by_cases hend : posL st c L = L.length
  · rw [hend, if_pos (nI_le (Nat.le_refl _) (by omega))]
    have ht : (insL st c L).take L.length = L := by rw [insL_end L hend, List.take_left]
    obtain ⟨S2, e2, q⟩ := learnLoop (n := n) (lg := lg) (N := N) (A := A) (i := L.length) k1 (by omega) hl1 wk hA1 (by omega) (by rw [ht]; exact R1 _ h) (by rw [ht]; unfold RC; rw [g1 10 (by decide)]; exact hC)
    exact ⟨S2, e2, fin S2 q⟩
  · rw [if_neg (nI_ge (by omega) (by omega))]
    obtain ⟨S2, e2, q1, q2, q3⟩ := clear_ok S1
    rw [e2, bs]
    unfold X4_learn_b30
    obtain ⟨S3, e3, p1, p2, p3⟩ := learnLoop (S := S2) (n := n) (lg := lg) (N := N) (A := A) (i := 0) (k1.fr q3) (by omega) (fun d hd => ⟨(hl1 d hd).1, (hl1 d hd).2.fr (fun k hk => q3.1 k (.inr hk))⟩) wk (hA1.fr (q3.1 22 (by omega)) (q3.1 23 (by omega))) (Nat.zero_le _) q1 q2
    exact ⟨S3, e3, fin S3 ⟨p1, p2, q3.trans p3⟩⟩
theorem knows_ok {S : St} {L : List Nat} {c : Nat} (hK : KE S L) (hlen : L.length ≤ 40) (hc : c < 40) (hm : ∀ d, d ∈ L → d < 40) : X4_knows S (nI c) = some (bI (decide (c ∈ L))) := by
  unfold X4_knows X4_knows_L2
  have key := wl_find (f := fun a' : (Int32 × Int32) => X4_knows_H2 S a'.1 a'.2) (N := L.length) (fun j => (nI c, nI j)) (fun j => decide (L[j]? = some c)) (fun _ => (1 : Int32)) (r := 0) (by omega) (fun j hj => ?_) ?_
  · rcases key with ⟨k, hk, hP, _, h⟩ | ⟨hn, h⟩
    · rw [decide_eq_true (List.mem_of_getElem? (of_decide_eq_true hP))]
      exact h
    · rw [decide_eq_false (fun q => ?_)]
      · exact h
      · obtain ⟨k, hk, hk2⟩ := List.mem_iff_getElem.mp q
        have := of_decide_eq_false (hn k hk)
        exact this (by rw [List.getElem?_eq_getElem hk, hk2])
  · obtain ⟨d, hd, hdm⟩ := get_lt hj
    have hd40 := hm d hdm
    show X4_knows_H2 S (nI c) (nI j) = if decide (L[j]? = some c) = true then _ else _
    unfold X4_knows_H2 X4_knows_b26
    rw [hK.1, if_neg (nI_ge hj (by omega)), if_neg (ge40 (by omega)), if_pos (in40 (by omega)), clN (by omega), hK.2 j d hd, hd]
    by_cases h : d = c
    · rw [if_pos (by rw [h]), if_pos (decide_eq_true (by rw [h]))]
      rfl
    · rw [if_neg (fun q => h ((nI_eq (by omega) (by omega)).mp q)), if_neg (fun q => h (Option.some.inj (of_decide_eq_true q))), nI_succ]
  · show X4_knows_H2 S (nI c) (nI L.length) = _
    unfold X4_knows_H2
    rw [hK.1, if_pos (nI_le (Nat.le_refl _) (by omega))]
    rfl
