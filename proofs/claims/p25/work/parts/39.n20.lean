/-! PURE 20: filters -/
def TRI (x : Int32) : Prop := x = -1 ∨ x = 0 ∨ x = 1
def bothQ (x y : Int32) : Int32 := if x = 0 then 0 else if y = 0 then 0 else if x = -1 then -1 else if y = -1 then -1 else 1
def negQ (x : Int32) : Int32 := if x = -1 then -1 else 1 - x
theorem bothQ_tri {x y : Int32} : TRI (bothQ x y) := by
  unfold bothQ TRI
  split
  · exact .inr (.inl rfl)
  · split
    · exact .inr (.inl rfl)
    · split
      · exact .inl rfl
      · split
        · exact .inl rfl
        · exact .inr (.inr rfl)
theorem negQ_tri {x : Int32} (h : TRI x) : TRI (negQ x) := by
  rcases h with rfl | rfl | rfl
  · exact .inl (by decide)
  · exact .inr (.inr (by decide))
  · exact .inr (.inl (by decide))
theorem both1 (x y : Int32) : X1_both x y = some (bothQ x y) := by
  unfold X1_both X1_both_b8 X1_both_b20 X1_both_b25 bothQ
  by_cases h1 : x = 0
  · rw [if_pos h1, if_pos h1]
  · rw [if_neg h1, if_neg h1]
    by_cases h2 : y = 0
    · rw [if_pos h2, if_pos h2]
    · rw [if_neg h2, if_neg h2]
      by_cases h3 : x = -1
      · rw [if_pos h3, if_pos h3]
      · rw [if_neg h3, if_neg h3]
        by_cases h4 : y = -1
        · rw [if_pos h4, if_pos h4]
        · rw [if_neg h4, if_neg h4]
theorem opp1 (x : Int32) : X1_opposite x = some (negQ x) := by
  unfold X1_opposite X1_opposite_b12 negQ
  by_cases h : x = -1
  · rw [if_pos h, if_pos h]
  · rw [if_neg h, if_neg h]
def tstQ (A : Nat → Nat) (T : AT) (p k a b : Nat) : Int32 := if (A (tIt T p)).testBit a = true then (if oI (tVa T (4 * p + a)) = -1 then 0 else if k = 0 then 1 else if k = 1 then (if oI (tVa T (4 * p + a)) = nI b then 1 else 0) else (if oI (tVa T (4 * p + a)) < nI b then 0 else 1)) else -1
theorem tstQ_tri {A : Nat → Nat} {T : AT} {p k a b : Nat} : TRI (tstQ A T p k a b) := by
  unfold tstQ TRI
  split
  · split
    · exact .inr (.inl rfl)
    · split
      · exact .inr (.inr rfl)
      · split
        · split
          · exact .inr (.inr rfl)
          · exact .inr (.inl rfl)
        · split
          · exact .inr (.inl rfl)
          · exact .inr (.inr rfl)
  · exact .inl rfl
theorem tst1 {S : St} {T : AT} {N A : Nat → Nat} {p k a b : Nat} (hp : p < 42) (ha : a < 4) (hk : k < 3) (w4 : W4 T) (h5 : E5 S T) (h6 : E6 S T) (hA : RCL S 22 23 N A) : X1_truthOfTest S (nI k) (nI a) (nI b) (nI p) = some (tstQ A T p k a b) := by
  unfold X1_truthOfTest X1_truthOfTest_b69 X1_truthOfTest_b81 tstQ
  rw [mayHold_ok hp ha w4 h5 hA, bs]
  cases hb : (A (tIt T p)).testBit a
  · rw [if_pos bit0, if_neg (by decide)]
  · rw [if_neg bit1, if_pos rfl, valueAt_ok hp ha h6, bs]
    by_cases h1 : oI (tVa T (4 * p + a)) = -1
    · rw [if_pos h1, if_pos h1]
    · rw [if_neg h1, if_neg h1]
      by_cases k0 : k = 0
      · rw [if_pos (show nI k = 0 by rw [k0]; rfl), if_pos k0]
      · rw [if_neg (nI_ne0 (by omega) (by omega)), if_neg k0]
        by_cases k1 : k = 1
        · rw [if_pos (show nI k = 1 by rw [k1]; rfl), if_pos k1]
          by_cases h2 : oI (tVa T (4 * p + a)) = nI b
          · rw [if_pos h2, if_pos h2]
          · rw [if_neg h2, if_neg h2]
        · rw [if_neg (show ¬ nI k = 1 from fun q => k1 ((nI_eq (b := 1) (by omega) (by decide)).mp q)), if_neg k1, if_pos (show nI k = 2 by rw [show k = 2 by omega]; rfl)]
          by_cases h2 : oI (tVa T (4 * p + a)) < nI b
          · rw [if_pos h2, if_pos h2]
          · rw [if_neg h2, if_neg h2]
def valQ (A : Nat → Nat) (T : AT) (p : Nat) (fk fa fb : Nat → Nat) (g : Nat → Int32) (j : Nat) : Int32 := if fk j < 3 then tstQ A T p (fk j) (fa j) (fb j) else if fk j = 3 then bothQ (g (fa j)) (g (fb j)) else if fk j = 4 then negQ (bothQ (negQ (g (fa j))) (negQ (g (fb j)))) else negQ (g (fa j))
def tvQ (A : Nat → Nat) (T : AT) (p : Nat) (fk fa fb : Nat → Nat) : Nat → Nat → Int32
  | 0 => fun _ => 0
  | j + 1 => fu (tvQ A T p fk fa fb j) j (valQ A T p fk fa fb (tvQ A T p fk fa fb j) j)
def FG (S : St) (a b c : Nat) (F : Nat) (fk fa fb : Nat → Nat) : Prop := F ≤ 20 ∧ ∀ j, j < F → S a j = nI (fk j) ∧ S b j = nI (fa j) ∧ S c j = nI (fb j) ∧ fk j < 6 ∧ (fk j < 3 → fa j < 4 ∧ fb j < 10) ∧ (3 ≤ fk j → fa j < j ∧ fb j < j)
theorem tvQ_tri {A : Nat → Nat} {T : AT} {p F : Nat} {fk fa fb : Nat → Nat} {S : St} {a b c : Nat} (h : FG S a b c F fk fa fb) : ∀ j, j ≤ F → ∀ i, i < j → TRI (tvQ A T p fk fa fb j i) := by
  intro j
  induction j with
  | zero => intro _ i hi; exact absurd hi (Nat.not_lt_zero i)
  | succ j ih =>
    intro hj i hi
    show TRI (fu (tvQ A T p fk fa fb j) j (valQ A T p fk fa fb (tvQ A T p fk fa fb j) j) i)
    by_cases e : i = j
    · rw [e, fu_s]
      obtain ⟨_, _, _, _, _, q⟩ := h.2 j (by omega)
      unfold valQ
      split
      · exact tstQ_tri
      · split
        · exact bothQ_tri
        · split
          · exact negQ_tri bothQ_tri
          · exact negQ_tri (ih (by omega) _ (q (by omega)).1)
    · rw [fu_n e]
      exact ih (by omega) i (by omega)
theorem truthFor_ok {S : St} {T : AT} {N A : Nat → Nat} {p x F : Nat} {fk fa fb : Nat → Nat} (hp : p < 42) (hx : x < F) (w4 : W4 T) (h5 : E5 S T) (h6 : E6 S T) (hA : RCL S 22 23 N A) (hF : FG S 28 29 30 F fk fa fb) : ∃ r : Int32 × St, X1_truthFor S (nI x) (nI p) = some r ∧ (r.1 = tvQ A T p fk fa fb (x + 1) x ∧ QE S r.2) := by
  have hF20 := hF.1
  unfold X1_truthFor X1_truthFor_L3
  refine wl_inv (f := fun a' : (St × Int32 × Int32 × Int32) => X1_truthFor_H3 a'.1 a'.2.1 a'.2.2.1 a'.2.2.2) (N := x + 1) (fun j a => ∃ U : St, a = (U, nI x, nI p, nI j) ∧ QE S U ∧ ∀ i, i < j → U 31 i = tvQ A T p fk fa fb j i) (by omega) ?_ ?_ ⟨S, rfl, fun _ _ => rfl, fun i hi => absurd hi (Nat.not_lt_zero i)⟩
  · rintro j a hj ⟨U, rfl, uf, ug⟩
    obtain ⟨q1, q2, q3, q4, q5, q6⟩ := hF.2 j (by omega)
    have u28 : U 28 j = nI (fk j) := by rw [uf 28 (by decide)]; exact q1
    have u29 : U 29 j = nI (fa j) := by rw [uf 29 (by decide)]; exact q2
    have u30 : U 30 j = nI (fb j) := by rw [uf 30 (by decide)]; exact q3
    show ∃ a', X1_truthFor_H3 U (nI x) (nI p) (nI j) = some (.inl a') ∧ _
    have go : X1_truthFor_H3 U (nI x) (nI p) (nI j) = X1_truthFor_b92 U (nI x) (nI p) (nI j) (valQ A T p fk fa fb (tvQ A T p fk fa fb j) j) (nI j) := by
      unfold X1_truthFor_H3 valQ
      rw [if_neg (nI_nlt (by omega) (by omega)), if_neg (ge20 (by omega)), if_pos (in20 (by omega)), if_pos (in20 (by omega)), if_pos (in20 (by omega)), clN (by omega), u28, u29, u30]
      by_cases k3 : fk j < 3
      · rw [if_neg (show ¬ (3 : Int32) ≤ nI (fk j) from nI_ge (b := 3) k3 (by decide)), if_pos k3, tst1 (S := U) (T := T) (N := N) (A := A) hp (q5 k3).1 k3 w4 (fun k hk => by rw [uf 5 (by decide)]; exact h5 k hk) (fun k hk => by rw [uf 6 (by decide)]; exact h6 k hk) (hA.fr (uf 22 (by decide)) (uf 23 (by decide))), bs]
      · have ha := (q6 (by omega)).1
        have hb := (q6 (by omega)).2
        rw [if_pos (show (3 : Int32) ≤ nI (fk j) from nI_le (a := 3) (by omega) (by omega)), if_neg k3, at_in (by omega) (by decide), bs, at_in (by omega) (by decide), bs, ug _ ha, ug _ hb]
        unfold X1_truthOfJoin
        by_cases k4 : fk j = 3
        · rw [if_pos (show nI (fk j) = 3 by rw [k4]; rfl), if_pos k4, both1, bs, bs]
        · rw [if_neg (show ¬ nI (fk j) = 3 from fun q => k4 ((nI_eq (b := 3) (by omega) (by decide)).mp q)), if_neg k4]
          by_cases k5 : fk j = 4
          · rw [if_pos (show nI (fk j) = 4 by rw [k5]; rfl), if_pos k5, opp1, bs, opp1, bs, both1, bs, opp1, bs, bs]
          · rw [if_neg (show ¬ nI (fk j) = 4 from fun q => k5 ((nI_eq (b := 4) (by omega) (by decide)).mp q)), if_neg k5, if_pos (show nI (fk j) = 5 by rw [show fk j = 5 by omega]; rfl), opp1, bs, bs]
    rw [go]
    unfold X1_truthFor_b92 X1_truthFor_b93
    rw [if_pos (in20 (by omega)), clN (by omega), ← nI_succ]
    refine ⟨_, rfl, _, rfl, fun k hk => (up_n hk).trans (uf k hk), fun i hi => ?_⟩
    rw [up_s]
    show _ = fu (tvQ A T p fk fa fb j) j (valQ A T p fk fa fb (tvQ A T p fk fa fb j) j) i
    by_cases e : i = j
    · rw [e, upd_s, fu_s]
    · rw [upd_n e, fu_n e]; exact ug i (by omega)
  · rintro a ⟨U, rfl, uf, ug⟩
    show ∃ r, X1_truthFor_H3 U (nI x) (nI p) (nI (x + 1)) = some (.inr r) ∧ _
    unfold X1_truthFor_H3 X1_truthFor_b99
    rw [if_pos (nI_lt (Nat.lt_succ_self x) (by omega)), at_in (by omega) (by decide), bs]
    exact ⟨_, rfl, ug x (Nat.lt_succ_self x), uf⟩
