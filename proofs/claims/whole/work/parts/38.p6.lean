/-! PURE 6: one change, in the class and in the model -/
abbrev CH : Type := Nat × Nat × Nat × Nat × Nat × Option Nat
def cK (c : CH) : Nat := c.1
def cX (c : CH) : Nat := c.2.1
def cP (c : CH) : Nat := c.2.2.1
def cL (c : CH) : Nat := c.2.2.2.1
def cW (c : CH) : Nat := c.2.2.2.2.1
def cV (c : CH) : Option Nat := c.2.2.2.2.2
def stepC (A : Nat → Nat) (T : AT) (c : CH) : AT := if cK c = 0 then stepA T (cX c) (cP c) (some (cL c)) (cW c) else if cK c = 1 then stepS A T (cX c) (cW c) (cV c) else if cK c = 2 then stepM T (cX c) (cP c) (some (cL c)) else stepD T (cX c)
def WC (j : Nat) (c : CH) : Prop := cK c < 4 ∧ cX c < 42 ∧ cP c < 42 ∧ cL c < 100 ∧ (cK c = 0 → cX c = j + 2 ∧ cP c ≠ cX c ∧ cW c < 3) ∧ (cK c = 1 → cW c < 4 ∧ ∀ k, cV c = some k → k < 10) ∧ (cK c = 2 → 2 ≤ cX c) ∧ (cK c = 3 → 2 ≤ cX c)
def LEj (S : St) (j : Nat) (c : CH) : Prop := S 15 j = nI (cK c) ∧ S 17 j = nI (cX c) ∧ (cK c = 0 → S 18 j = nI (cP c) ∧ S 19 j = nI (cL c) ∧ S 20 j = nI (cW c)) ∧ (cK c = 1 → S 18 j = nI (cW c) ∧ S 19 j = oI (cV c)) ∧ (cK c = 2 → S 18 j = nI (cP c) ∧ S 19 j = nI (cL c))
def LMj (M : St) (j : Nat) (c : CH) : Prop := M 3 j = nI (cK c) ∧ M 4 j = nI (cX c) ∧ (cK c = 0 → M 5 j = nI (cP c) ∧ M 6 j = nI (cL c) ∧ M 7 j = nI (cW c)) ∧ (cK c = 1 → M 7 j = nI (cW c) ∧ M 8 j = oI (cV c)) ∧ (cK c = 2 → M 5 j = nI (cP c) ∧ M 6 j = nI (cL c))
theorem stepC_WF {A : Nat → Nat} {T : AT} {j : Nat} {c : CH} (wc : WC j c) (w : WF T) (hc : CLO T none) (hf : cK c = 0 → tTh T (cX c) = false) : WF (stepC A T c) ∧ CLO (stepC A T c) none := by
  obtain ⟨k1, k2, k3, k4, k5, k6, k7, k8⟩ := wc
  unfold stepC
  by_cases h0 : cK c = 0
  · rw [if_pos h0]
    exact stepA_WF (by have := (k5 h0).1; omega) k2 k3 (k5 h0).2.1 k4 (k5 h0).2.2 (hf h0) w hc
  · rw [if_neg h0]
    by_cases h1 : cK c = 1
    · rw [if_pos h1]
      exact stepS_WF (k6 h1).2 w hc
    · rw [if_neg h1]
      by_cases h2 : cK c = 2
      · rw [if_pos h2]
        exact stepM_WF (k7 h2) k2 k3 k4 w hc
      · rw [if_neg h2]
        exact stepD_WF (k8 (by omega)) k2 w hc
theorem perform_ok {S : St} {T : AT} {N A : Nat → Nat} {j : Nat} {c : CH} (hj : j < 40) (hl : LEj S j c) (wc : WC j c) (w : WF T) (hc : CLO T none) (hf : cK c = 0 → tTh T (cX c) = false) (hA : RCL S 22 23 N A) (h : RE S T) (hC : RC S T) : ∃ S', X4_perform S (nI j) = some S' ∧ RE S' (stepC A T c) ∧ RC S' (stepC A T c) ∧ FE S S' := by
  obtain ⟨k1, k2, k3, k4, k5, k6, k7, k8⟩ := wc
  obtain ⟨l1, l2, l3, l4, l5⟩ := hl
  unfold X4_perform X4_perform_b99 X4_perform_b110 X4_perform_b121 X4_perform_b129 X4_perform_b132 stepC
  rw [at_in hj (by decide), bs, at_in hj (by decide), bs, at_in hj (by decide), bs, at_in hj (by decide), bs, l1, l2]
  by_cases h0 : cK c = 0
  · rw [if_pos (show nI (cK c) = 0 by rw [h0]; rfl), if_pos h0, at_in hj (by decide), bs, (l3 h0).1, (l3 h0).2.1, (l3 h0).2.2]
    obtain ⟨S', r0, r1⟩ := pAdd_ok (i := cW c) (by have := (k5 h0).1; omega) k2 k3 k4 w.2.1 w.2.2.2.1 h hC (hf h0)
    exact ⟨S', by rw [r0]; rfl, r1⟩
  · rw [if_neg (nI_ne0 (by omega) (by omega)), if_neg h0]
    by_cases h1 : cK c = 1
    · rw [if_pos (show nI (cK c) = 1 by rw [h1]; rfl), if_pos h1, (l4 h1).1, (l4 h1).2]
      obtain ⟨S', r0, r1⟩ := pSet_ok (v := cV c) k2 (k6 h1).1 w.2.2.2.2.1 hA h hC
      exact ⟨S', by rw [r0]; rfl, r1⟩
    · rw [if_neg (show ¬ nI (cK c) = 1 from fun q => h1 ((nI_eq (b := 1) (by omega) (by omega)).mp q)), if_neg h1]
      by_cases h2 : cK c = 2
      · rw [if_pos (show nI (cK c) = 2 by rw [h2]; rfl), if_pos h2, (l5 h2).1, (l5 h2).2]
        obtain ⟨S', r0, r1⟩ := pMove_ok (by have := k7 h2; omega) k2 k3 k4 w hc h hC
        exact ⟨S', by rw [r0]; rfl, r1⟩
      · rw [if_neg (show ¬ nI (cK c) = 2 from fun q => h2 ((nI_eq (b := 2) (by omega) (by omega)).mp q)), if_neg h2, if_pos (show nI (cK c) = 3 by rw [show cK c = 3 by omega]; rfl)]
        obtain ⟨S', r0, r1⟩ := pDel_ok (k8 (by omega)) k2 w hc h hC
        exact ⟨S', by rw [r0]; rfl, r1⟩
/-- the model -/
def FM (M M' : St) : Prop := ∀ k, k < 18 ∨ 23 ≤ k → M' k = M k
theorem FM.rfl' (M : St) : FM M M := fun _ _ => rfl
theorem FM.trans {M M1 M2 : St} (h : FM M M1) (g : FM M1 M2) : FM M M2 := fun k hk => (g k hk).trans (h k hk)
theorem allowedM_ok {S : St} {T : AT} {N A : Nat → Nat} {x w : Nat} (hx : x < 42) (hw : w < 4) (w4 : W4 T) (h5 : M21 S T) (hA : RCL S 1 2 N A) : X6_allowed S (nI x) (nI w) = some (bI ((A (tIt T x)).testBit w)) := by
  unfold X6_allowed X6_allowed_b24
  have hi := w4 x
  rw [if_pos (in42 hx), cl42 hx, h5 x hx, if_pos (in3 hi), clN (by omega), (hA _ hi).2.2.1]
  cases hb : (A (tIt T x)).testBit w
  · rw [if_neg (fun q => by rw [(shr_ok _ (hA _ hi).2.2.2 w hw).mp q] at hb; exact absurd hb (by decide))]
    rfl
  · rw [if_pos ((shr_ok _ (hA _ hi).2.2.2 w hw).mpr hb)]
    rfl
theorem does182 {M : St} {j k x : Nat} (hj : j < 40) (h : M 3 j = nI k) (hk : k < 3) : X6_does_b182 M (nI j) (nI x) = some M := by
  unfold X6_does_b182 X6_does_b247
  rw [if_pos (in40 hj), clN (by omega), h, if_neg (show ¬ nI k = 3 from fun q => absurd ((nI_eq (b := 3) (by omega) (by omega)).mp q) (by omega))]
theorem does112 {M : St} {j k x : Nat} (hj : j < 40) (h : M 3 j = nI k) (hk : k < 4) (h2 : k ≠ 2) : X6_does_b112 M (nI j) (nI x) = X6_does_b182 M (nI j) (nI x) := by
  unfold X6_does_b112
  rw [if_pos (in40 hj), clN (by omega), h, if_neg (show ¬ nI k = 2 from fun q => h2 ((nI_eq (b := 2) (by omega) (by omega)).mp q))]
theorem does58 {M : St} {j k x : Nat} (hj : j < 40) (h : M 3 j = nI k) (hk : k < 4) (h2 : k ≠ 1) : X6_does_b58 M (nI j) (nI x) = X6_does_b112 M (nI j) (nI x) := by
  unfold X6_does_b58
  rw [if_pos (in40 hj), clN (by omega), h, if_neg (show ¬ nI k = 1 from fun q => h2 ((nI_eq (b := 1) (by omega) (by omega)).mp q))]
theorem mAdd_ok {M : St} {T : AT} {j x p l i : Nat} (hj : j < 40) (hx0 : x ≠ 0) (hx : x < 42) (hp : p < 42) (hl : l < 100) (w1 : W1 T) (w3 : W3 T) (h : RM M T) (l0 : M 3 j = nI 0) (l1 : M 4 j = nI x) (l2 : M 5 j = nI p) (l3 : M 6 j = nI l) (l4 : M 7 j = nI i) : ∃ M', X6_does M (nI j) = some M' ∧ RM M' (stepA T x p (some l) i) ∧ FM M M' := by
  obtain ⟨h2, h3, h4, h5, h6⟩ := h
  unfold X6_does X6_does_b23 X6_does_b35 X6_does_b47
  rw [if_pos (in40 hj), if_pos (in40 hj), clN (show j < 1000 by omega), l0, if_pos nI_0, l1, if_pos (in42 hx), if_pos (in40 hj), if_pos (in42 hx), if_pos (in40 hj), if_pos (in42 hx), if_pos (in40 hj), cl42 hx, nar1]
  generalize hS1 : up (up (up M 18 (upd (M 18) x 1)) 21 _) 20 _ = S1
  have f18 : S1 18 = upd (M 18) x 1 := by rw [← hS1, up_n (by decide), up_n (by decide), up_s]
  have f21 : S1 21 = upd (M 21) x (nI i) := by rw [← hS1, up_n (by decide), up_s, up_n (by decide), up_n (by decide), l4]
  have f20 : S1 20 = upd (M 20) x (nI l) := by rw [← hS1, up_s, up_n (by decide), up_n (by decide), up_n (by decide), up_n (by decide), l3]
  have ff : ∀ k, k ≠ 18 → k ≠ 20 → k ≠ 21 → S1 k = M k := fun k a b c => by rw [← hS1, up_n b, up_n c, up_n a]
  rw [ff 5 (by decide) (by decide) (by decide), l2]
  have g2 : M18 S1 (sIt (sLa (sTh T x true) x (some l)) x i) := fun k hk => by
    rw [f18]
    show upd (M 18) x 1 k = bI (fu (tTh T) x true k)
    by_cases hk' : k = x
    · rw [hk', upd_s, fu_s]; rfl
    · rw [upd_n hk', fu_n hk']; exact h2 k hk
  have g3 : M19 S1 (sIt (sLa (sTh T x true) x (some l)) x i) (nI x) := fun k hk hne ht => by
    have hk' : k ≠ x := fun q => hne (by rw [q])
    have ht' : fu (tTh T) x true k = true := ht
    rw [fu_n hk'] at ht'
    rw [ff 19 (by decide) (by decide) (by decide)]
    exact h3 k hk (nI_nn (by omega)) ht'
  have g4 : M20 S1 (sIt (sLa (sTh T x true) x (some l)) x i) := fun k hk => by
    rw [f20]
    show upd (M 20) x (nI l) k = oI (fu (tLa T) x (some l) k)
    by_cases hk' : k = x
    · rw [hk', upd_s, fu_s]; rfl
    · rw [upd_n hk', fu_n hk']; exact h4 k hk
  have v3 : W3 (sIt (sLa (sTh T x true) x (some l)) x i) := fun v k q => by
    have q' : fu (tLa T) x (some l) v = some k := q
    by_cases hk' : v = x
    · rw [hk', fu_s] at q'
      rw [← Option.some.inj q']; exact hl
    · rw [fu_n hk'] at q'
      exact w3 v k q'
  obtain ⟨S', r0, r2, r3, r4, rf⟩ := hangs_ok (S := S1) (T := sIt (sLa (sTh T x true) x (some l)) x i) (p := p) hx0 hx hp w1 v3 g2 g3 g4
  have e3 : S' 3 j = nI 0 := by rw [rf 3 (by decide) (by decide), ff 3 (by decide) (by decide) (by decide), l0]
  refine ⟨S', by rw [r0, bs, does58 hj e3 (by decide) (by decide), does112 hj e3 (by decide) (by decide), does182 hj e3 (by decide)], ⟨r2, r3, r4, fun k hk => ?_, fun k hk => ?_⟩, fun k hk => ?_⟩
  · rw [rf 21 (by decide) (by decide), f21]
    show upd (M 21) x (nI i) k = nI (fu (tIt T) x i k)
    by_cases hk' : k = x
    · rw [hk', upd_s, fu_s]
    · rw [upd_n hk', fu_n hk']; exact h5 k hk
  · rw [rf 22 (by decide) (by decide), ff 22 (by decide) (by decide) (by decide)]
    exact h6 k hk
  · rw [rf k (by omega) (by omega), ff k (by omega) (by omega) (by omega)]
theorem mSet_ok {M : St} {T : AT} {N A : Nat → Nat} {j x w : Nat} {v : Option Nat} (hj : j < 40) (hx : x < 42) (hw : w < 4) (w4 : W4 T) (hA : RCL M 1 2 N A) (h : RM M T) (l0 : M 3 j = nI 1) (l1 : M 4 j = nI x) (l2 : M 7 j = nI w) (l3 : M 8 j = oI v) : ∃ M', X6_does M (nI j) = some M' ∧ RM M' (stepS A T x w v) ∧ FM M M' := by
  obtain ⟨h2, h3, h4, h5, h6⟩ := h
  have tl : ∀ U : St, U 3 j = nI 1 → X6_does_b112 U (nI j) (nI x) = some U := fun U e => by
    rw [does112 hj e (by decide) (by decide), does182 hj e (by decide)]
  unfold X6_does X6_does_b58 stepS
  rw [if_pos (in40 hj), if_pos (in40 hj), clN (show j < 1000 by omega), l0, if_neg (by decide), l1, if_pos (in40 hj), if_pos (show nI 1 = 1 from rfl), if_pos (in42 hx), cl42 hx, h2 x hx]
  cases ht : tTh T x
  · rw [if_pos bit0, if_neg (fun q => absurd q.1 (by decide)), tl M l0]
    exact ⟨M, rfl, ⟨h2, h3, h4, h5, h6⟩, FM.rfl' M⟩
  · rw [if_neg bit1, if_pos (in40 hj), l2, allowedM_ok hx hw w4 h5 hA, bs]
    cases hb : (A (tIt T x)).testBit w
    · rw [if_pos bit0, if_neg (fun q => absurd q.2 (by decide)), tl M l0]
      exact ⟨M, rfl, ⟨h2, h3, h4, h5, h6⟩, FM.rfl' M⟩
    · rw [if_neg bit1, if_pos (⟨rfl, rfl⟩ : true = true ∧ true = true), if_pos (in40 hj), if_pos (in40 hj), ix4', if_pos (in168 (by omega)), clN (by omega), l3, tl _ (by rw [up_n (by decide)]; exact l0)]
      refine ⟨_, rfl, ⟨?_, ?_, ?_, ?_, fun k hk => ?_⟩, fun k hk => up_n (by omega)⟩
      · exact h2
      · exact h3
      · exact h4
      · exact h5
      · rw [up_s]
        show upd (M 22) (4 * x + w) (oI v) k = oI (fu (tVa T) (4 * x + w) v k)
        by_cases hk' : k = 4 * x + w
        · rw [hk', upd_s, fu_s]
        · rw [upd_n hk', fu_n hk']; exact h6 k hk
theorem mMove_ok {M : St} {T : AT} {j x p l : Nat} (hj : j < 40) (hx0 : x ≠ 0) (hx : x < 42) (hp : p < 42) (hl : l < 100) (w : WF T) (hc : CLO T none) (h : RM M T) (l0 : M 3 j = nI 2) (l1 : M 4 j = nI x) (l2 : M 5 j = nI p) (l3 : M 6 j = nI l) : ∃ M', X6_does M (nI j) = some M' ∧ RM M' (stepM T x p (some l)) ∧ FM M M' := by
  obtain ⟨h2, h3, h4, h5, h6⟩ := h
  obtain ⟨w0, w1, w2, w3, w4, w5, w6⟩ := w
  have tl : ∀ U : St, U 3 j = nI 2 → X6_does_b182 U (nI j) (nI x) = some U := fun U e => does182 hj e (by decide)
  have go : X6_does_b159 M (nI j) (nI x) = X6_does_b171 (up M 20 (upd (M 20) x (nI l))) (nI j) (nI x) := by
    unfold X6_does_b159
    rw [if_pos (in40 hj), if_pos (in42 hx), clN (show j < 1000 by omega), cl42 hx, l3]
  have yes : ∃ M', X6_does_b159 M (nI j) (nI x) = some M' ∧ RM M' (hang (sLa T x (some l)) x p) ∧ FM M M' := by
    rw [go]
    unfold X6_does_b171
    rw [if_pos (in40 hj), clN (show j < 1000 by omega), up_n (by decide), l2]
    have g4 : M20 (up M 20 (upd (M 20) x (nI l))) (sLa T x (some l)) := fun k hk => by
      rw [up_s]
      show upd (M 20) x (nI l) k = oI (fu (tLa T) x (some l) k)
      by_cases hk' : k = x
      · rw [hk', upd_s, fu_s]; rfl
      · rw [upd_n hk', fu_n hk']; exact h4 k hk
    have v3 : W3 (sLa T x (some l)) := fun v k q => by
      have q' : fu (tLa T) x (some l) v = some k := q
      by_cases hk' : v = x
      · rw [hk', fu_s] at q'
        rw [← Option.some.inj q']; exact hl
      · rw [fu_n hk'] at q'
        exact w3 v k q'
    obtain ⟨S', r0, r2, r3, r4, rf⟩ := hangs_ok (S := up M 20 (upd (M 20) x (nI l))) (T := sLa T x (some l)) (p := p) hx0 hx hp w1 v3 (fun k hk => h2 k hk) (fun k hk _ ht => h3 k hk (nI_nn (by omega)) ht) g4
    refine ⟨S', by rw [r0, bs, tl S' (by rw [rf 3 (by decide) (by decide), up_n (by decide), l0])], ⟨r2, r3, r4, fun k hk => ?_, fun k hk => ?_⟩, fun k hk => ?_⟩
    · rw [rf 21 (by decide) (by decide), up_n (by decide)]; exact h5 k hk
    · rw [rf 22 (by decide) (by decide), up_n (by decide)]; exact h6 k hk
    · rw [rf k (by omega) (by omega), up_n (by omega)]
  unfold X6_does
  rw [if_pos (in40 hj), if_pos (in40 hj), clN (show j < 1000 by omega), l0, if_neg (by decide), l1, does58 hj l0 (by decide) (by decide)]
  unfold X6_does_b112 stepM
  rw [if_pos (in40 hj), clN (show j < 1000 by omega), l0, if_pos (show nI 2 = 2 from rfl), if_pos (in42 hx), cl42 hx, h2 x hx]
  cases ht : tTh T x
  · rw [if_pos bit0, if_neg (fun q => absurd q.1 (by decide)), tl M l0]
    exact ⟨M, rfl, ⟨h2, h3, h4, h5, h6⟩, FM.rfl' M⟩
  · rw [if_neg bit1, if_pos (in40 hj), l2, if_pos (in42 hp), cl42 hp, h2 p hp]
    cases hpt : tTh T p
    · rw [if_pos bit0, if_pos (⟨rfl, fun q => absurd q.1 (by decide)⟩ : true = true ∧ ¬ (false = true ∧ bel T p x = true))]
      exact yes
    · rw [if_neg bit1, if_pos (in40 hj), within_ok hx0 hx hp hpt w0 w1 w2 hc h3, bs]
      cases hb : bel T p x
      · rw [if_pos bit0, if_pos (⟨rfl, fun q => absurd q.2 (by decide)⟩ : true = true ∧ ¬ (true = true ∧ false = true))]
        exact yes
      · rw [if_neg bit1, if_neg (fun q => q.2 ⟨rfl, rfl⟩), tl M l0]
        exact ⟨M, rfl, ⟨h2, h3, h4, h5, h6⟩, FM.rfl' M⟩
theorem mDel_ok {M : St} {T : AT} {j x : Nat} (hj : j < 40) (hx2 : 2 ≤ x) (hx : x < 42) (w : WF T) (hc : CLO T none) (h : RM M T) (l0 : M 3 j = nI 3) (l1 : M 4 j = nI x) : ∃ M', X6_does M (nI j) = some M' ∧ RM M' (stepD T x) ∧ FM M M' := by
  obtain ⟨h2, h3, h4, h5, h6⟩ := h
  unfold X6_does
  rw [if_pos (in40 hj), if_pos (in40 hj), clN (show j < 1000 by omega), l0, if_neg (by decide), l1, does58 hj l0 (by decide) (by decide), does112 hj l0 (by decide) (by decide)]
  unfold X6_does_b182 X6_does_b208 stepD
  rw [if_pos (in40 hj), clN (show j < 1000 by omega), l0, if_pos (show nI 3 = 3 from rfl), if_pos (in42 hx), cl42 hx, h2 x hx]
  cases ht : tTh T x
  · rw [if_pos bit0, if_neg (by decide)]
    exact ⟨M, rfl, ⟨h2, h3, h4, h5, h6⟩, FM.rfl' M⟩
  · obtain ⟨a, b⟩ := del0 hx2 w hc
    have RI := rehang_inv hx2 hx a b fu_s
    rw [if_neg bit1, if_pos (in42 hx), nar0, if_pos rfl]
    generalize hS1 : up M 18 (upd (M 18) x 0) = S1
    have f18 : S1 18 = upd (M 18) x 0 := by rw [← hS1, up_s]
    have ff : ∀ k, k ≠ 18 → S1 k = M k := fun k a => by rw [← hS1, up_n a]
    have g2 : M18 S1 (sTh T x false) := fun k hk => by
      rw [f18]
      show upd (M 18) x 0 k = bI (fu (tTh T) x false k)
      by_cases hk' : k = x
      · rw [hk', upd_s, fu_s]; rfl
      · rw [upd_n hk', fu_n hk']; exact h2 k hk
    have g3 : M19 S1 (sTh T x false) (-1) := fun k hk _ ht' => by
      have ht2 : fu (tTh T) x false k = true := ht'
      have hk' : k ≠ x := fun q => by
        rw [q, fu_s] at ht2
        exact absurd ht2 (by decide)
      rw [fu_n hk'] at ht2
      rw [ff 19 (by decide)]
      exact h3 k hk (nI_nn (by omega)) ht2
    have g4 : M20 S1 (sTh T x false) := fun k hk => by rw [ff 20 (by decide)]; exact h4 k hk
    refine wl_inv (f := fun a' : (St × Int32 × Int32) => X6_does_H210 a'.1 a'.2.1 a'.2.2) (N := 42) (Q := fun S' => RM S' (fr (rehang x) (sTh T x false) 42) ∧ FM M S') (fun j a => ∃ U, a = (U, nI x, nI j) ∧ M18 U (fr (rehang x) (sTh T x false) j) ∧ M19 U (fr (rehang x) (sTh T x false) j) (-1) ∧ M20 U (fr (rehang x) (sTh T x false) j) ∧ ∀ k, k ≠ 19 → k ≠ 20 → U k = S1 k) (by decide) ?_ ?_ ⟨S1, rfl, g2, g3, g4, fun _ _ _ => rfl⟩
    · rintro j a hj ⟨U, rfl, k2, k3, k4, kf⟩
      obtain ⟨⟨v0, v1, v2, v3, v4, v5, v6⟩, _, _, _, _, _⟩ := RI j (by omega)
      show ∃ a', X6_does_H210 U (nI x) (nI j) = some (.inl a') ∧ ∃ V, a' = (V, nI x, nI (j + 1)) ∧ M18 V (rehang x j (fr (rehang x) (sTh T x false) j)) ∧ M19 V (rehang x j (fr (rehang x) (sTh T x false) j)) (-1) ∧ M20 V (rehang x j (fr (rehang x) (sTh T x false) j)) ∧ ∀ k, k ≠ 19 → k ≠ 20 → V k = S1 k
      generalize fr (rehang x) (sTh T x false) j = Z at k2 k3 k4 v0 v1 v2 v3 v4 v5 v6
      unfold X6_does_H210 X6_does_b241 rehang
      rw [if_neg (ge42 hj), if_pos (in42 hj), cl42 hj, k2 j hj, nI_succ]
      cases htj : tTh Z j
      · rw [if_pos bit0, if_neg (fun q => absurd q.1 (by decide))]
        exact ⟨_, rfl, U, rfl, k2, k3, k4, kf⟩
      · rw [if_neg bit1, if_pos (in42 hj), k3 j hj (nI_nn (by omega)) htj]
        by_cases hq : j ≠ 0 ∧ tPa Z j = x
        · rw [if_pos ((paM_eq hx (v1 j hj)).mpr hq), if_pos ⟨rfl, hq⟩]
          obtain ⟨V, r0, r2, r3, r4, rf⟩ := hangs_ok (p := 1) hq.1 hj (by decide) v1 v3 k2 (M19.all k3 _) k4
          refine ⟨_, by rw [show (1 : Int32) = nI 1 from rfl, r0]; rfl, V, rfl, r2, r3, r4, fun k a b => (rf k a b).trans (kf k a b)⟩
        · rw [if_neg (fun q => hq ((paM_eq hx (v1 j hj)).mp q)), if_neg (fun q => hq q.2)]
          exact ⟨_, rfl, U, rfl, k2, k3, k4, kf⟩
    · rintro a ⟨U, rfl, k2, k3, k4, kf⟩
      show ∃ r, X6_does_H210 U (nI x) (nI 42) = some (.inr r) ∧ _
      unfold X6_does_H210 X6_does_b247
      rw [if_pos le42]
      obtain ⟨_, _, i3, _, i5, i6⟩ := RI 42 (Nat.le_refl 42)
      refine ⟨U, rfl, ⟨k2, k3, k4, fun k hk => ?_, fun k hk => ?_⟩, fun k hk => by rw [kf k (by omega) (by omega), ff k (by omega)]⟩
      · rw [kf 21 (by decide) (by decide), ff 21 (by decide), i5]; exact h5 k hk
      · rw [kf 22 (by decide) (by decide), ff 22 (by decide), i6]; exact h6 k hk
theorem does_ok {M : St} {T : AT} {N A : Nat → Nat} {j : Nat} {c : CH} (hj : j < 40) (hl : LMj M j c) (wc : WC j c) (w : WF T) (hc : CLO T none) (hA : RCL M 1 2 N A) (h : RM M T) : ∃ M', X6_does M (nI j) = some M' ∧ RM M' (stepC A T c) ∧ FM M M' := by
  obtain ⟨k1, k2, k3, k4, k5, k6, k7, k8⟩ := wc
  obtain ⟨l1, l2, l3, l4, l5⟩ := hl
  unfold stepC
  by_cases h0 : cK c = 0
  · rw [if_pos h0]
    exact mAdd_ok hj (by have := (k5 h0).1; omega) k2 k3 k4 w.2.1 w.2.2.2.1 h (by rw [l1, h0]) l2 (l3 h0).1 (l3 h0).2.1 (l3 h0).2.2
  · rw [if_neg h0]
    by_cases h1 : cK c = 1
    · rw [if_pos h1]
      exact mSet_ok hj k2 (k6 h1).1 w.2.2.2.2.1 hA h (by rw [l1, h1]) l2 (l4 h1).1 (l4 h1).2
    · rw [if_neg h1]
      by_cases h2 : cK c = 2
      · rw [if_pos h2]
        exact mMove_ok hj (by have := k7 h2; omega) k2 k3 k4 w hc h (by rw [l1, h2]) l2 (l5 h2).1 (l5 h2).2
      · rw [if_neg h2]
        exact mDel_ok hj (k8 (by omega)) k2 w hc h (by rw [l1, show cK c = 3 by omega]) l2
