/-! PURE 20: filters -/
def TRI (x : Int32) : Prop := x = -1 ∨ x = 0 ∨ x = 1
def bothQ (x y : Int32) : Int32 := if x = 0 then 0 else if y = 0 then 0 else if x = -1 then -1 else if y = -1 then -1 else 1
def negQ (x : Int32) : Int32 := if x = -1 then -1 else 1 - x
theorem bothQ_tri {x y : Int32} : TRI (bothQ x y) := by
  unfold bothQ TRI
  split
  · exact .inr (.inl rfl)
  · split
    · exact .inr (.inl rfl)
    · split
      · exact .inl rfl
      · split
        · exact .inl rfl
        · exact .inr (.inr rfl)
theorem negQ_tri {x : Int32} (h : TRI x) : TRI (negQ x) := by
  rcases h with rfl | rfl | rfl
  · exact .inl (by decide)
  · exact .inr (.inr (by decide))
  · exact .inr (.inl (by decide))
theorem both1 (x y : Int32) : X1_both x y = some (bothQ x y) := by
  unfold X1_both X1_both_b8 X1_both_b20 X1_both_b25 bothQ
  by_cases h1 : x = 0
  · rw [if_pos h1, if_pos h1]
  · rw [if_neg h1, if_neg h1]
    by_cases h2 : y = 0
    · rw [if_pos h2, if_pos h2]
    · rw [if_neg h2, if_neg h2]
      by_cases h3 : x = -1
      · rw [if_pos h3, if_pos h3]
      · rw [if_neg h3, if_neg h3]
        by_cases h4 : y = -1
        · rw [if_pos h4, if_pos h4]
        · rw [if_neg h4, if_neg h4]
theorem opp1 (x : Int32) : X1_opposite x = some (negQ x) := by
  unfold X1_opposite X1_opposite_b12 negQ
  by_cases h : x = -1
  · rw [if_pos h, if_pos h]
  · rw [if_neg h, if_neg h]
theorem both6 {x y : Int32} (hx : TRI x) (hy : TRI y) : X6_both x y = some (bothQ x y) := by
  rcases hx with rfl | rfl | rfl <;> rcases hy with rfl | rfl | rfl <;> decide
theorem not6 {x : Int32} (hx : TRI x) : X6_not x = some (negQ x) := by
  rcases hx with rfl | rfl | rfl <;> decide
def tstQ (A : Nat → Nat) (T : AT) (p k a b : Nat) : Int32 := if (A (tIt T p)).testBit a = true then (if oI (tVa T (4 * p + a)) = -1 then 0 else if k = 0 then 1 else if k = 1 then (if oI (tVa T (4 * p + a)) = nI b then 1 else 0) else (if oI (tVa T (4 * p + a)) < nI b then 0 else 1)) else -1
theorem tstQ_tri {A : Nat → Nat} {T : AT} {p k a b : Nat} : TRI (tstQ A T p k a b) := by
  unfold tstQ TRI
  split
  · split
    · exact .inr (.inl rfl)
    · split
      · exact .inr (.inr rfl)
      · split
        · split
          · exact .inr (.inr rfl)
          · exact .inr (.inl rfl)
        · split
          · exact .inr (.inl rfl)
          · exact .inr (.inr rfl)
  · exact .inl rfl
theorem tst1 {S : St} {T : AT} {N A : Nat → Nat} {p k a b : Nat} (hp : p < 42) (ha : a < 4) (hk : k < 3) (w4 : W4 T) (h5 : E5 S T) (h6 : E6 S T) (hA : RCL S 22 23 N A) : X1_truthOfTest S (nI k) (nI a) (nI b) (nI p) = some (tstQ A T p k a b) := by
  unfold X1_truthOfTest X1_truthOfTest_b69 X1_truthOfTest_b81 tstQ
  rw [mayHold_ok hp ha w4 h5 hA, bs]
  cases hb : (A (tIt T p)).testBit a
  · rw [if_pos bit0, if_neg (by decide)]
  · rw [if_neg bit1, if_pos rfl, valueAt_ok hp ha h6, bs]
    by_cases h1 : oI (tVa T (4 * p + a)) = -1
    · rw [if_pos h1, if_pos h1]
    · rw [if_neg h1, if_neg h1]
      by_cases k0 : k = 0
      · rw [if_pos (show nI k = 0 by rw [k0]; rfl), if_pos k0]
      · rw [if_neg (nI_ne0 (by omega) (by omega)), if_neg k0]
        by_cases k1 : k = 1
        · rw [if_pos (show nI k = 1 by rw [k1]; rfl), if_pos k1]
          by_cases h2 : oI (tVa T (4 * p + a)) = nI b
          · rw [if_pos h2, if_pos h2]
          · rw [if_neg h2, if_neg h2]
        · rw [if_neg (show ¬ nI k = 1 from fun q => k1 ((nI_eq (b := 1) (by omega) (by decide)).mp q)), if_neg k1, if_pos (show nI k = 2 by rw [show k = 2 by omega]; rfl)]
          by_cases h2 : oI (tVa T (4 * p + a)) < nI b
          · rw [if_pos h2, if_pos h2]
          · rw [if_neg h2, if_neg h2]
theorem tst6 {M : St} {T : AT} {N A : Nat → Nat} {p k a b j : Nat} (hj : j < 20) (hp : p < 42) (ha : a < 4) (hb : b < 10) (hk : k < 3) (w4 : W4 T) (w5 : W5 T) (h5 : M21 M T) (h6 : M22 M T) (hA : RCL M 1 2 N A) (m14 : M 14 j = nI k) (m15 : M 15 j = nI a) (m16 : M 16 j = nI b) : X6_tested M (nI j) (nI p) = some (tstQ A T p k a b) := by
  have hv := w5 (4 * p + a)
  have b80 : ∀ z : Int32, TRI z → z ≠ -1 → X6_tested_b80 M (nI j) (nI p) z = some (if (A (tIt T p)).testBit a = true then z else -1) := fun z hz hz1 => by
    unfold X6_tested_b80 X6_tested_b110
    rw [if_pos (in20 hj), clN (show j < 1000 by omega), m15, allowedM_ok hp ha w4 h5 hA, bs]
    cases (A (tIt T p)).testBit a
    · rw [if_pos bit0, if_neg (by decide)]
    · rw [if_neg bit1, if_pos rfl]
      rcases hz with rfl | rfl | rfl
      · exact absurd rfl hz1
      · rw [if_pos rfl]
      · rw [if_neg one0]
  have z0 := b80 0 (.inr (.inl rfl)) (by decide)
  have z1 := b80 1 (.inr (.inr rfl)) (by decide)
  have m1lt : (-1 : Int32) < nI b := by
    rw [Int32.lt_iff_toInt_lt, nI_toInt (by omega)]
    have : (-1 : Int32).toInt = -1 := rfl
    omega
  unfold X6_tested tstQ
  rw [if_pos (in20 hj), clN (show j < 1000 by omega), m15, ix4', if_pos (in168 (by omega)), if_pos (in20 hj), m14, clN (show 4 * p + a < 1000 by omega), h6 _ (by omega), z0, z1, m16]
  by_cases k0 : k = 0
  · rw [if_pos (show nI k = 0 by rw [k0]; rfl)]
    cases hs : (tVa T (4 * p + a)).isSome
    · rw [if_pos ((neg_oI hv).mpr hs), if_pos ((some_oI hv).mpr hs)]
    · rw [if_neg (fun q => by rw [(neg_oI hv).mp q] at hs; exact absurd hs (by decide)), if_neg (show ¬ oI (tVa T (4 * p + a)) = -1 from fun q => by rw [(some_oI hv).mp q] at hs; exact absurd hs (by decide)), if_pos k0]
  · rw [if_neg (nI_ne0 (by omega) (by omega)), if_pos (in20 hj)]
    by_cases k1 : k = 1
    · rw [if_pos (show nI k = 1 by rw [k1]; rfl), if_pos (in20 hj), if_neg k0, if_pos k1]
      by_cases h1 : oI (tVa T (4 * p + a)) = -1
      · rw [h1, if_neg (nI_nn' (by omega)), if_pos rfl]
      · rw [if_neg h1]
        by_cases h2 : oI (tVa T (4 * p + a)) = nI b
        · rw [if_pos h2, if_pos h2]
        · rw [if_neg h2, if_neg h2]
    · rw [if_neg (show ¬ nI k = 1 from fun q => k1 ((nI_eq (b := 1) (by omega) (by decide)).mp q)), if_pos (in20 hj), if_neg k0, if_neg k1]
      by_cases h1 : oI (tVa T (4 * p + a)) = -1
      · rw [h1, if_pos m1lt, if_pos rfl]
      · rw [if_neg h1]
        by_cases h2 : oI (tVa T (4 * p + a)) < nI b
        · rw [if_pos h2, if_pos h2]
        · rw [if_neg h2, if_neg h2]
def valQ (A : Nat → Nat) (T : AT) (p : Nat) (fk fa fb : Nat → Nat) (g : Nat → Int32) (j : Nat) : Int32 := if fk j < 3 then tstQ A T p (fk j) (fa j) (fb j) else if fk j = 3 then bothQ (g (fa j)) (g (fb j)) else if fk j = 4 then negQ (bothQ (negQ (g (fa j))) (negQ (g (fb j)))) else negQ (g (fa j))
def tvQ (A : Nat → Nat) (T : AT) (p : Nat) (fk fa fb : Nat → Nat) : Nat → Nat → Int32
  | 0 => fun _ => 0
  | j + 1 => fu (tvQ A T p fk fa fb j) j (valQ A T p fk fa fb (tvQ A T p fk fa fb j) j)
def FG (S : St) (a b c : Nat) (F : Nat) (fk fa fb : Nat → Nat) : Prop := F ≤ 20 ∧ ∀ j, j < F → S a j = nI (fk j) ∧ S b j = nI (fa j) ∧ S c j = nI (fb j) ∧ fk j < 6 ∧ (fk j < 3 → fa j < 4 ∧ fb j < 10) ∧ (3 ≤ fk j → fa j < j ∧ fb j < j)
theorem tvQ_tri {A : Nat → Nat} {T : AT} {p F : Nat} {fk fa fb : Nat → Nat} {S : St} {a b c : Nat} (h : FG S a b c F fk fa fb) : ∀ j, j ≤ F → ∀ i, i < j → TRI (tvQ A T p fk fa fb j i) := by
  intro j
  induction j with
  | zero => intro _ i hi; exact absurd hi (Nat.not_lt_zero i)
  | succ j ih =>
    intro hj i hi
    show TRI (fu (tvQ A T p fk fa fb j) j (valQ A T p fk fa fb (tvQ A T p fk fa fb j) j) i)
    by_cases e : i = j
    · rw [e, fu_s]
      obtain ⟨_, _, _, _, _, q⟩ := h.2 j (by omega)
      unfold valQ
      split
      · exact tstQ_tri
      · split
        · exact bothQ_tri
        · split
          · exact negQ_tri bothQ_tri
          · exact negQ_tri (ih (by omega) _ (q (by omega)).1)
    · rw [fu_n e]
      exact ih (by omega) i (by omega)
theorem truthFor_ok {S : St} {T : AT} {N A : Nat → Nat} {p x F : Nat} {fk fa fb : Nat → Nat} (hp : p < 42) (hx : x < F) (w4 : W4 T) (h5 : E5 S T) (h6 : E6 S T) (hA : RCL S 22 23 N A) (hF : FG S 28 29 30 F fk fa fb) : ∃ r : Int32 × St, X1_truthFor S (nI x) (nI p) = some r ∧ (r.1 = tvQ A T p fk fa fb (x + 1) x ∧ QE S r.2) := by
  have hF20 := hF.1
  unfold X1_truthFor X1_truthFor_L3
  refine wl_inv (f := fun a' : (St × Int32 × Int32 × Int32) => X1_truthFor_H3 a'.1 a'.2.1 a'.2.2.1 a'.2.2.2) (N := x + 1) (fun j a => ∃ U : St, a = (U, nI x, nI p, nI j) ∧ QE S U ∧ ∀ i, i < j → U 31 i = tvQ A T p fk fa fb j i) (by omega) ?_ ?_ ⟨S, rfl, fun _ _ => rfl, fun i hi => absurd hi (Nat.not_lt_zero i)⟩
  · rintro j a hj ⟨U, rfl, uf, ug⟩
    obtain ⟨q1, q2, q3, q4, q5, q6⟩ := hF.2 j (by omega)
    have u28 : U 28 j = nI (fk j) := by rw [uf 28 (by decide)]; exact q1
    have u29 : U 29 j = nI (fa j) := by rw [uf 29 (by decide)]; exact q2
    have u30 : U 30 j = nI (fb j) := by rw [uf 30 (by decide)]; exact q3
    show ∃ a', X1_truthFor_H3 U (nI x) (nI p) (nI j) = some (.inl a') ∧ _
    have go : X1_truthFor_H3 U (nI x) (nI p) (nI j) = X1_truthFor_b92 U (nI x) (nI p) (nI j) (valQ A T p fk fa fb (tvQ A T p fk fa fb j) j) (nI j) := by
      unfold X1_truthFor_H3 valQ
      rw [if_neg (nI_nlt (by omega) (by omega)), if_neg (ge20 (by omega)), if_pos (in20 (by omega)), if_pos (in20 (by omega)), if_pos (in20 (by omega)), clN (by omega), u28, u29, u30]
      by_cases k3 : fk j < 3
      · rw [if_neg (show ¬ (3 : Int32) ≤ nI (fk j) from nI_ge (b := 3) k3 (by decide)), if_pos k3, tst1 (S := U) (T := T) (N := N) (A := A) hp (q5 k3).1 k3 w4 (fun k hk => by rw [uf 5 (by decide)]; exact h5 k hk) (fun k hk => by rw [uf 6 (by decide)]; exact h6 k hk) (hA.fr (uf 22 (by decide)) (uf 23 (by decide))), bs]
      · have ha := (q6 (by omega)).1
        have hb := (q6 (by omega)).2
        rw [if_pos (show (3 : Int32) ≤ nI (fk j) from nI_le (a := 3) (by omega) (by omega)), if_neg k3, at_in (by omega) (by decide), bs, at_in (by omega) (by decide), bs, ug _ ha, ug _ hb]
        unfold X1_truthOfJoin
        by_cases k4 : fk j = 3
        · rw [if_pos (show nI (fk j) = 3 by rw [k4]; rfl), if_pos k4, both1, bs, bs]
        · rw [if_neg (show ¬ nI (fk j) = 3 from fun q => k4 ((nI_eq (b := 3) (by omega) (by decide)).mp q)), if_neg k4]
          by_cases k5 : fk j = 4
          · rw [if_pos (show nI (fk j) = 4 by rw [k5]; rfl), if_pos k5, opp1, bs, opp1, bs, both1, bs, opp1, bs, bs]
          · rw [if_neg (show ¬ nI (fk j) = 4 from fun q => k5 ((nI_eq (b := 4) (by omega) (by decide)).mp q)), if_neg k5, if_pos (show nI (fk j) = 5 by rw [show fk j = 5 by omega]; rfl), opp1, bs, bs]
    rw [go]
    unfold X1_truthFor_b92 X1_truthFor_b93
    rw [if_pos (in20 (by omega)), clN (by omega), ← nI_succ]
    refine ⟨_, rfl, _, rfl, fun k hk => (up_n hk).trans (uf k hk), fun i hi => ?_⟩
    rw [up_s]
    show _ = fu (tvQ A T p fk fa fb j) j (valQ A T p fk fa fb (tvQ A T p fk fa fb j) j) i
    by_cases e : i = j
    · rw [e, upd_s, fu_s]
    · rw [upd_n e, fu_n e]; exact ug i (by omega)
  · rintro a ⟨U, rfl, uf, ug⟩
    show ∃ r, X1_truthFor_H3 U (nI x) (nI p) (nI (x + 1)) = some (.inr r) ∧ _
    unfold X1_truthFor_H3 X1_truthFor_b99
    rw [if_pos (nI_lt (Nat.lt_succ_self x) (by omega)), at_in (by omega) (by decide), bs]
    exact ⟨_, rfl, ug x (Nat.lt_succ_self x), uf⟩
theorem filtered_ok {M : St} {T : AT} {N A : Nat → Nat} {p x F : Nat} {fk fa fb : Nat → Nat} (hp : p < 42) (hx : x < F) (w4 : W4 T) (w5 : W5 T) (h5 : M21 M T) (h6 : M22 M T) (hA : RCL M 1 2 N A) (hF : FG M 14 15 16 F fk fa fb) : ∃ r : Int32 × St, X6_filtered M (nI x) (nI p) = some r ∧ (r.1 = tvQ A T p fk fa fb (x + 1) x ∧ ∀ k, k ≠ 17 → r.2 k = M k) := by
  have hF20 := hF.1
  unfold X6_filtered X6_filtered_L2
  refine wl_inv (f := fun a' : (St × Int32 × Int32 × Int32) => X6_filtered_H2 a'.1 a'.2.1 a'.2.2.1 a'.2.2.2) (N := x + 1) (fun j a => ∃ U : St, a = (U, nI x, nI p, nI j) ∧ (∀ k, k ≠ 17 → U k = M k) ∧ ∀ i, i < j → U 17 i = tvQ A T p fk fa fb j i) (by omega) ?_ ?_ ⟨M, rfl, fun _ _ => rfl, fun i hi => absurd hi (Nat.not_lt_zero i)⟩
  · rintro j a hj ⟨U, rfl, uf, ug⟩
    obtain ⟨q1, q2, q3, q4, q5, q6⟩ := hF.2 j (by omega)
    have tri := tvQ_tri (A := A) (T := T) (p := p) hF j (by omega)
    have u14 : U 14 j = nI (fk j) := by rw [uf 14 (by decide)]; exact q1
    have u15 : U 15 j = nI (fa j) := by rw [uf 15 (by decide)]; exact q2
    have u16 : U 16 j = nI (fb j) := by rw [uf 16 (by decide)]; exact q3
    show ∃ a', X6_filtered_H2 U (nI x) (nI p) (nI j) = some (.inl a') ∧ _
    have go : X6_filtered_H2 U (nI x) (nI p) (nI j) = X6_filtered_b139 U (nI x) (nI p) (nI j) (valQ A T p fk fa fb (tvQ A T p fk fa fb j) j) (nI j) := by
      unfold X6_filtered_H2 valQ
      rw [if_neg (nI_nlt (by omega) (by omega)), if_pos (in20 (by omega)), clN (show j < 1000 by omega), u14]
      by_cases k3 : fk j < 3
      · have n3 : ¬ (3 : Int32) ≤ nI (fk j) := nI_ge (b := 3) k3 (by decide)
        rw [if_neg n3, if_pos k3]
        unfold X6_filtered_b32
        rw [if_pos (in20 (by omega)), clN (show j < 1000 by omega), u14, if_neg n3]
        unfold X6_filtered_b59
        rw [if_pos (in20 (by omega)), clN (show j < 1000 by omega), u14, if_neg n3, tst6 (M := U) (T := T) (N := N) (A := A) (by omega) hp (q5 k3).1 (q5 k3).2 k3 w4 w5 (fun k hk => by rw [uf 21 (by decide)]; exact h5 k hk) (fun k hk => by rw [uf 22 (by decide)]; exact h6 k hk) (hA.fr (uf 1 (by decide)) (uf 2 (by decide))) u14 u15 u16, bs]
      · have y3 : (3 : Int32) ≤ nI (fk j) := nI_le (a := 3) (by omega) (by omega)
        have ha := (q6 (by omega)).1
        have hb := (q6 (by omega)).2
        rw [if_pos y3, if_neg k3, if_pos (in20 (by omega)), u15, if_pos (in20 (by omega)), clN (show fa j < 1000 by omega), ug _ ha]
        unfold X6_filtered_b32
        rw [if_pos (in20 (by omega)), clN (show j < 1000 by omega), u14, if_pos y3, if_pos (in20 (by omega)), u16, if_pos (in20 (by omega)), clN (show fb j < 1000 by omega), ug _ hb]
        unfold X6_filtered_b59
        rw [if_pos (in20 (by omega)), clN (show j < 1000 by omega), u14, if_pos y3, if_pos (in20 (by omega))]
        have ta := tri _ ha
        have tb := tri _ hb
        by_cases k4 : fk j = 3
        · rw [if_pos (show nI (fk j) = 3 by rw [k4]; rfl), if_pos k4, both6 ta tb, bs]
        · rw [if_neg (show ¬ nI (fk j) = 3 from fun q => k4 ((nI_eq (b := 3) (by omega) (by decide)).mp q)), if_neg k4, if_pos (in20 (by omega))]
          by_cases k5 : fk j = 4
          · rw [if_pos (show nI (fk j) = 4 by rw [k5]; rfl), if_pos k5, not6 ta, bs, not6 tb, bs, both6 (negQ_tri ta) (negQ_tri tb), bs, not6 bothQ_tri, bs]
          · rw [if_neg (show ¬ nI (fk j) = 4 from fun q => k5 ((nI_eq (b := 4) (by omega) (by decide)).mp q)), if_neg k5, not6 ta, bs]
    rw [go]
    unfold X6_filtered_b139 X6_filtered_b140
    rw [if_pos (in20 (by omega)), clN (by omega), ← nI_succ]
    refine ⟨_, rfl, _, rfl, fun k hk => (up_n hk).trans (uf k hk), fun i hi => ?_⟩
    rw [up_s]
    show _ = fu (tvQ A T p fk fa fb j) j (valQ A T p fk fa fb (tvQ A T p fk fa fb j) j) i
    by_cases e : i = j
    · rw [e, upd_s, fu_s]
    · rw [upd_n e, fu_n e]; exact ug i (by omega)
  · rintro a ⟨U, rfl, uf, ug⟩
    show ∃ r, X6_filtered_H2 U (nI x) (nI p) (nI (x + 1)) = some (.inr r) ∧ _
    unfold X6_filtered_H2 X6_filtered_b146
    rw [if_pos (nI_lt (Nat.lt_succ_self x) (by omega)), if_pos (in20 (by omega)), clN (by omega)]
    exact ⟨_, rfl, ug x (Nat.lt_succ_self x), uf⟩
theorem FF.gen {S M : St} {F : Nat} (h : FF S M F) : ∃ fk fa fb, FG S 28 29 30 F fk fa fb ∧ FG M 14 15 16 F fk fa fb := by
  obtain ⟨h1, _, _, h4⟩ := h
  have key : FG M 14 15 16 F (fun j => (M 14 j).toNatClampNeg) (fun j => (M 15 j).toNatClampNeg) (fun j => (M 16 j).toNatClampNeg) := by
    refine ⟨h1, fun j hj => ?_⟩
    obtain ⟨_, _, _, k, a, b, e1, e2, e3, r1, r2, r3⟩ := h4 j hj
    have ba : a < 1000 := by
      rcases Nat.lt_or_ge k 3 with z | z
      · have := (r2 z).1; omega
      · have := (r3 z).1; omega
    have bb : b < 1000 := by
      rcases Nat.lt_or_ge k 3 with z | z
      · have := (r2 z).2; omega
      · have := (r3 z).2; omega
    dsimp only
    rw [e1, e2, e3, clN (show k < 1000 by omega), clN ba, clN bb]
    exact ⟨rfl, rfl, rfl, r1, r2, r3⟩
  refine ⟨_, _, _, ⟨h1, fun j hj => ?_⟩, key⟩
  obtain ⟨s1, s2, s3, _⟩ := h4 j hj
  rw [s1, s2, s3]
  exact key.2 j hj
theorem holds_no {M : St} {x2 x3 : Int32} : X6_holds_b29 M x2 x3 = some (0, up M 0 (upd (M 0) 25 (nI 1))) := by
  unfold X6_holds_b29 X6_holds_b30 X6_holds_b33 X6_holds_b50
  rw [up_s, upd_s, if_neg (by decide)]
  rfl
theorem api_holds {m : Nat} {S M : St} (hm : m < 2) (h : INV m S M) (x2 x3 : Int32) : SAME m (X5_holds_b5 S x2 x3) (X6_holds M (nI m) x2 x3) := by
  have hh := h
  obtain ⟨n, lg, tm, mk, bt, N, A, L, L', F, hI⟩ := hh
  have hI' := hI
  obtain ⟨⟨a, _⟩, _, _, ⟨_, _, d3, d4, _⟩, _, ⟨fA, fB⟩, _, hf⟩ := hI'
  obtain ⟨w, _, _⟩ := repl_WF (A := A) (d3.wkl a)
  have h20 := hf.1
  unfold X5_holds_b5 X6_holds
  rw [hf.2.1, mst_ok hm, bs, if_neg one0]
  rcases ix_both x2 (n := F) (by omega) with ⟨x, hx, rfl, e1, e2⟩ | ⟨_, e1, e2⟩
  · rw [e1, (isFilter_ok hf.2.2.1 _).1 e2, bs, bs, if_pos rfl, if_neg one0]
    obtain ⟨M1, r1, r2, hcase⟩ := isHere_ok hm hI x3
    rcases hcase with ⟨p, hp, rfl, hpt, e3, _, e4⟩ | ⟨_, e3, _, e4⟩
    · rw [e3, e4, bs, bs, if_pos rfl]
      try dsimp only
      obtain ⟨fk, fa, fb, gE, gM⟩ := hf.gen
      obtain ⟨⟨v, S'⟩, k0, k1, k2⟩ := truthFor_ok (N := N) (A := A) hp hx w.2.2.2.2.1 d4.2.2.2.1 d4.2.2.2.2 fA gE
      have gM' : FG (up M1 0 (upd (M1 0) 25 0)) 14 15 16 F fk fa fb := by
        have q14 : (up M1 0 (upd (M1 0) 25 0)) 14 = M 14 := by rw [up_n (by decide), r2 14 (by omega)]
        have q15 : (up M1 0 (upd (M1 0) 25 0)) 15 = M 15 := by rw [up_n (by decide), r2 15 (by omega)]
        have q16 : (up M1 0 (upd (M1 0) 25 0)) 16 = M 16 := by rw [up_n (by decide), r2 16 (by omega)]
        unfold FG
        rw [q14, q15, q16]
        exact gM
      obtain ⟨⟨v2, M'⟩, j0, j1, j2⟩ := filtered_ok (M := up M1 0 (upd (M1 0) 25 0)) (T := repl A lg L) (N := N) (A := A) hp hx w.2.2.2.2.1 w.2.2.2.2.2.1 (fun k hk => r1.2.2.2.1 k hk) (fun k hk => r1.2.2.2.2 k hk) (fB.fr (r2 1 (by omega)) (r2 2 (by omega))) gM'
      have j1' : v2 = tvQ A (repl A lg L) p fk fa fb (x + 1) x := j1
      have j2' : ∀ k, k ≠ 17 → M' k = (up M1 0 (upd (M1 0) 25 0)) k := j2
      have k1' : v = tvQ A (repl A lg L) p fk fa fb (x + 1) x := k1
      unfold X5_holds_b35 X6_holds_b22 X6_holds_b30 X6_holds_b33 X6_holds_b50
      rw [if_neg one0, e25, if_pos (by decide), k0, j0, bs, bs]
      refine ⟨0, v, S', v2, M', rfl, rfl, ?_, by decide, ?_, fun _ => k1'.trans j1'.symm⟩
      · refine IV.inv (hI.q k2 ((r2.qm.trans (qm25 M1 0)).trans ⟨fun k p q => j2' k (by omega), fun j _ => by rw [j2' 0 (by decide)]⟩))
      · rw [j2' 0 (by decide), e25]
        rfl
    · rw [e3, e4, bs, bs, if_neg (by decide)]
      try dsimp only
      unfold X6_holds_b22
      rw [if_pos rfl, holds_no]
      exact same_err h r2.qm (by decide) (by decide)
  · rw [e1, (isFilter_ok hf.2.2.1 _).2 e2, bs, bs, if_neg (by decide), if_pos rfl, holds_no]
    exact sames_err h (by decide) (by decide)
