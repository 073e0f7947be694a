/-! PURE 5: the class's steps on its tree -/
def cntF (f : Nat → Bool) : Nat → Nat
  | 0 => 0
  | n + 1 => cntF f n + (if f n = true then 1 else 0)
theorem cntF_add {f : Nat → Bool} {x : Nat} (hf : f x = false) : ∀ n, cntF (fu f x true) n = cntF f n + (if x < n then 1 else 0) := by
  intro n
  induction n with
  | zero => rfl
  | succ n ih =>
    show cntF (fu f x true) n + (if fu f x true n = true then 1 else 0) = cntF f n + (if f n = true then 1 else 0) + (if x < n + 1 then 1 else 0)
    rw [ih]
    by_cases h : n = x
    · rw [h, fu_s, hf, if_neg (Nat.lt_irrefl x), if_pos rfl, if_neg (by decide), if_pos (Nat.lt_succ_self _)]
    · rw [fu_n h]
      generalize (if f n = true then 1 else 0) = z
      by_cases h2 : x < n
      · rw [if_pos h2, if_pos (show x < n + 1 by omega)]; omega
      · rw [if_neg h2, if_neg (show ¬ x < n + 1 by omega)]; omega
theorem cntF_del {f : Nat → Bool} {x : Nat} (hf : f x = true) (n : Nat) : cntF (fu f x false) n + (if x < n then 1 else 0) = cntF f n := by
  have h : fu (fu f x false) x true = f := by
    funext j
    by_cases hj : j = x
    · rw [hj, fu_s, hf]
    · rw [fu_n hj, fu_n hj]
  rw [← cntF_add fu_s, h]
theorem cntF_le (f : Nat → Bool) : ∀ n, cntF f n ≤ n
  | 0 => Nat.le_refl 0
  | n + 1 => by
    show cntF f n + (if f n = true then 1 else 0) ≤ n + 1
    have := cntF_le f n
    split <;> omega
def RC (S : St) (T : AT) : Prop := S 0 10 = nI (cntF (tTh T) 42)
def FE (S S' : St) : Prop := (∀ k, k = 1 ∨ 7 ≤ k → S' k = S k) ∧ ∀ j, j ≠ 10 → S' 0 j = S 0 j
theorem FE.rfl' (S : St) : FE S S := ⟨fun _ _ => rfl, fun _ _ => rfl⟩
theorem FE.trans {S S1 S2 : St} (h : FE S S1) (g : FE S1 S2) : FE S S2 := ⟨fun k hk => (g.1 k hk).trans (h.1 k hk), fun j hj => (g.2 j hj).trans (h.2 j hj)⟩
theorem nar1 : vp_nar .boolean 1 = 1 := by decide
theorem nar0 : vp_nar .boolean 0 = 0 := by decide
theorem lt42 {j : Nat} (h : j < 42) : nI j < (42 : Int32) := nI_lt (b := 42) h (by decide)
theorem pAdd_ok {S : St} {T : AT} {x p l i : Nat} (hx0 : x ≠ 0) (hx : x < 42) (hp : p < 42) (hl : l < 100) (w1 : W1 T) (w3 : W3 T) (h : RE S T) (hc : RC S T) (hf : tTh T x = false) : ∃ S', X4_performAdding S (nI x) (nI p) (nI l) (nI i) = some S' ∧ RE S' (stepA T x p (some l) i) ∧ RC S' (stepA T x p (some l) i) ∧ FE S S' := by
  obtain ⟨h2, h3, h4, h5, h6⟩ := h
  unfold X4_performAdding X4_performAdding_b18 X4_performAdding_b25 X4_performAdding_b33 X4_performAdding_b43 X4_performAdding_b49
  rw [if_neg (nI_pos (by omega)), if_pos (lt42 hx), if_pos (in42 hx), if_pos (in42 hx), if_pos (in42 hx), cl42 hx, nar1]
  generalize hS1 : up (up (up (up S 2 (upd (S 2) x 1)) 4 _) 5 _) 0 _ = S1
  have f0 : S1 0 = upd (S 0) 10 (S 0 10 + 1) := by rw [← hS1, up_s, up_n (by decide), up_n (by decide), up_n (by decide)]
  have f2 : S1 2 = upd (S 2) x 1 := by rw [← hS1, up_n (by decide), up_n (by decide), up_n (by decide), up_s]
  have f3 : S1 3 = S 3 := by rw [← hS1, up_n (by decide), up_n (by decide), up_n (by decide), up_n (by decide)]
  have f4 : S1 4 = upd (S 4) x (nI l) := by rw [← hS1, up_n (by decide), up_n (by decide), up_s, up_n (by decide)]
  have f5 : S1 5 = upd (S 5) x (nI i) := by rw [← hS1, up_n (by decide), up_s, up_n (by decide), up_n (by decide)]
  have ff : ∀ k, k ≠ 0 → k ≠ 2 → k ≠ 4 → k ≠ 5 → S1 k = S k := fun k a b c d => by rw [← hS1, up_n a, up_n d, up_n c, up_n b]
  have g2 : E2 S1 (sIt (sLa (sTh T x true) x (some l)) x i) := fun k hk => by
    rw [f2]
    show upd (S 2) x 1 k = bI (fu (tTh T) x true k)
    by_cases hk' : k = x
    · rw [hk', upd_s, fu_s]; rfl
    · rw [upd_n hk', fu_n hk']; exact h2 k hk
  have g3 : E3 S1 (sIt (sLa (sTh T x true) x (some l)) x i) (nI x) := fun k hk hne => by
    have hk' : k ≠ x := fun q => hne (by rw [q])
    rw [f3, h3 k hk (nI_nn (by omega))]
    show (if tTh T k = true ∧ k ≠ 0 then nI (tPa T k) else -1) = if fu (tTh T) x true k = true ∧ k ≠ 0 then nI (tPa T k) else -1
    rw [fu_n hk']
  have g4 : E4 S1 (sIt (sLa (sTh T x true) x (some l)) x i) := fun k hk => by
    rw [f4]
    show upd (S 4) x (nI l) k = oI (fu (tLa T) x (some l) k)
    by_cases hk' : k = x
    · rw [hk', upd_s, fu_s]; rfl
    · rw [upd_n hk', fu_n hk']; exact h4 k hk
  have v3 : W3 (sIt (sLa (sTh T x true) x (some l)) x i) := fun v k q => by
    have q' : fu (tLa T) x (some l) v = some k := q
    by_cases hk' : v = x
    · rw [hk', fu_s] at q'
      rw [← Option.some.inj q']; exact hl
    · rw [fu_n hk'] at q'
      exact w3 v k q'
  obtain ⟨S', r0, r2, r3, r4, rf⟩ := settle_ok (S := S1) (T := sIt (sLa (sTh T x true) x (some l)) x i) (p := p) hx0 hx hp w1 v3 g2 g3 g4 fu_s
  refine ⟨S', by rw [r0]; rfl, ⟨r2, r3, r4, fun k hk => ?_, fun k hk => ?_⟩, ?_, fun k hk => ?_, fun j hj => ?_⟩
  · rw [rf 5 (by decide) (by decide), f5]
    show upd (S 5) x (nI i) k = nI (fu (tIt T) x i k)
    by_cases hk' : k = x
    · rw [hk', upd_s, fu_s]
    · rw [upd_n hk', fu_n hk']; exact h5 k hk
  · rw [rf 6 (by decide) (by decide), ff 6 (by decide) (by decide) (by decide) (by decide)]
    exact h6 k hk
  · show S' 0 10 = nI (cntF (fu (tTh T) x true) 42)
    rw [rf 0 (by decide) (by decide), f0, upd_s, hc, cntF_add hf, if_pos hx, nI_succ]
  · rw [rf k (by omega) (by omega), ff k (by omega) (by omega) (by omega) (by omega)]
  · rw [rf 0 (by decide) (by decide), f0, upd_n hj]
/-- the classes' bits -/
theorem allows_ok {S : St} {i w a : Nat} (hA : S 23 i = nI a) (ha : a < 16) (hi : i < 3) (hw : w < 4) : X0_allows S (nI i) (nI w) = some (bI (a.testBit w)) := by
  unfold X0_allows X0_allows_b26 X0_allows_b27
  rw [if_neg (nI_pos (by omega)), if_neg (ge3 hi), if_pos (in3 hi), clN (by omega), hA, hasBit_ok a ha w hw, bs]
  cases a.testBit w <;> rfl
theorem needs_ok {S : St} {i w a : Nat} (hA : S 22 i = nI a) (ha : a < 16) (hi : i < 3) (hw : w < 4) : X0_needs S (nI i) (nI w) = some (bI (a.testBit w)) := by
  unfold X0_needs X0_needs_b26 X0_needs_b27
  rw [if_neg (nI_pos (by omega)), if_neg (ge3 hi), if_pos (in3 hi), clN (by omega), hA, hasBit_ok a ha w hw, bs]
  cases a.testBit w <;> rfl
/-- bits of the classes: N needed, A allowed -/
def RCL (S : St) (n a : Nat) (N A : Nat → Nat) : Prop := ∀ i, i < 3 → S n i = nI (N i) ∧ N i < 16 ∧ S a i = nI (A i) ∧ A i < 16
theorem mayHold_ok {S : St} {T : AT} {N A : Nat → Nat} {x w : Nat} (hx : x < 42) (hw : w < 4) (w4 : W4 T) (h5 : E5 S T) (hA : RCL S 22 23 N A) : X4_mayHold S (nI x) (nI w) = some (bI ((A (tIt T x)).testBit w)) := by
  unfold X4_mayHold
  have hi := w4 x
  rw [at_in hx (by decide), bs, h5 x hx, allows_ok (hA _ hi).2.2.1 (hA _ hi).2.2.2 hi hw, bs, if_pos (bI_and _)]
theorem ix4 (x w : Nat) : nI x * 4 + nI w = nI (4 * x + w) := by
  rw [show (4 : Int32) = nI 4 from rfl, pk_mul, nI_add, Nat.mul_comm]
theorem ix4' (x w : Nat) : 4 * nI x + nI w = nI (4 * x + w) := by
  rw [show (4 : Int32) = nI 4 from rfl, pk_mul, nI_add]
theorem valueAt_ok {S : St} {T : AT} {x w : Nat} (hx : x < 42) (hw : w < 4) (h6 : E6 S T) : X4_valueAt S (nI x) (nI w) = some (oI (tVa T (4 * x + w))) := by
  unfold X4_valueAt
  rw [ix4, at_in (by omega) (by decide), bs, h6 _ (by omega)]
theorem pSet_ok {S : St} {T : AT} {N A : Nat → Nat} {x w : Nat} {v : Option Nat} (hx : x < 42) (hw : w < 4) (w4 : W4 T) (hA : RCL S 22 23 N A) (h : RE S T) (hc : RC S T) : ∃ S', X4_performSetting S (nI x) (nI w) (oI v) = some S' ∧ RE S' (stepS A T x w v) ∧ RC S' (stepS A T x w v) ∧ FE S S' := by
  obtain ⟨h2, h3, h4, h5, h6⟩ := h
  unfold X4_performSetting X4_performSetting_b30 stepS
  rw [has_ok h2 hx, bs]
  cases ht : tTh T x
  · rw [if_pos bit0, if_neg (fun q => absurd q.1 (by decide))]
    exact ⟨S, rfl, ⟨h2, h3, h4, h5, h6⟩, hc, FE.rfl' S⟩
  · rw [if_neg bit1, mayHold_ok hx hw w4 h5 hA, bs]
    cases hb : (A (tIt T x)).testBit w
    · rw [if_pos bit0, if_neg (fun q => absurd q.2 (by decide))]
      exact ⟨S, rfl, ⟨h2, h3, h4, h5, h6⟩, hc, FE.rfl' S⟩
    · rw [if_neg bit1, if_pos ⟨rfl, rfl⟩, ix4, put_in (by omega) (by decide), bs]
      refine ⟨_, rfl, ⟨?_, ?_, ?_, ?_, fun k hk => ?_⟩, hc, fun k hk => up_n (by omega), fun j _ => rfl⟩
      · exact h2
      · exact h3
      · exact h4
      · exact h5
      · rw [up_s]
        show upd (S 6) (4 * x + w) (oI v) k = oI (fu (tVa T) (4 * x + w) v k)
        by_cases hk' : k = 4 * x + w
        · rw [hk', upd_s, fu_s]
        · rw [upd_n hk', fu_n hk']; exact h6 k hk
theorem pMove_ok {S : St} {T : AT} {x p l : Nat} (hx0 : x ≠ 0) (hx : x < 42) (hp : p < 42) (hl : l < 100) (w : WF T) (hc : CLO T none) (h : RE S T) (hC : RC S T) : ∃ S', X4_performMoving S (nI x) (nI p) (nI l) = some S' ∧ RE S' (stepM T x p (some l)) ∧ RC S' (stepM T x p (some l)) ∧ FE S S' := by
  obtain ⟨h2, h3, h4, h5, h6⟩ := h
  obtain ⟨w0, w1, w2, w3, w4, w5, w6⟩ := w
  unfold X4_performMoving X4_performMoving_b30 X4_performMoving_b24 X4_performMoving_b30 stepM
  rw [has_ok h2 hx, bs]
  cases ht : tTh T x
  · rw [if_pos bit0, if_neg (fun q => absurd q.1 (by decide))]
    exact ⟨S, rfl, ⟨h2, h3, h4, h5, h6⟩, hC, FE.rfl' S⟩
  · rw [if_neg bit1, below_ok hx0 hx hp ht w0 w1 w2 hc h3, bs]
    cases hb : (tTh T p && bel T p x)
    · rw [if_pos bit0, if_pos (⟨rfl, fun q => by rw [q.1, q.2] at hb; exact absurd hb (by decide)⟩ : true = true ∧ ¬ (tTh T p = true ∧ bel T p x = true)), if_pos (in42 hx), cl42 hx]
      have g4 : E4 (up S 4 (upd (S 4) x (nI l))) (sLa T x (some l)) := fun k hk => by
        rw [up_s]
        show upd (S 4) x (nI l) k = oI (fu (tLa T) x (some l) k)
        by_cases hk' : k = x
        · rw [hk', upd_s, fu_s]; rfl
        · rw [upd_n hk', fu_n hk']; exact h4 k hk
      have v3 : W3 (sLa T x (some l)) := fun v k q => by
        have q' : fu (tLa T) x (some l) v = some k := q
        by_cases hk' : v = x
        · rw [hk', fu_s] at q'
          rw [← Option.some.inj q']; exact hl
        · rw [fu_n hk'] at q'
          exact w3 v k q'
      obtain ⟨S', r0, r2, r3, r4, rf⟩ := settle_ok (S := up S 4 (upd (S 4) x (nI l))) (T := sLa T x (some l)) (p := p) hx0 hx hp w1 v3 (fun k hk => h2 k hk) (fun k hk _ => h3 k hk (nI_nn (by omega))) g4 ht
      refine ⟨S', by rw [r0]; rfl, ⟨r2, r3, r4, fun k hk => ?_, fun k hk => ?_⟩, ?_, fun k hk => ?_, fun j hj => ?_⟩
      · rw [rf 5 (by decide) (by decide), up_n (by decide)]; exact h5 k hk
      · rw [rf 6 (by decide) (by decide), up_n (by decide)]; exact h6 k hk
      · show S' 0 10 = nI (cntF (tTh T) 42)
        rw [rf 0 (by decide) (by decide), up_n (by decide)]; exact hC
      · rw [rf k (by omega) (by omega), up_n (by omega)]
      · rw [rf 0 (by decide) (by decide), up_n (by decide)]
    · rw [if_neg bit1, if_neg (fun q => q.2 (by rw [Bool.and_eq_true] at hb; exact hb))]
      exact ⟨S, rfl, ⟨h2, h3, h4, h5, h6⟩, hC, FE.rfl' S⟩
/-- loops with a growing picture -/
theorem wl_inv {α β : Type} {f : α → Option (α ⊕ β)} {N : Nat} (I : Nat → α → Prop) {Q : β → Prop} (hN : N < 1000) (hs : ∀ j a, j < N → I j a → ∃ a', f a = some (.inl a') ∧ I (j + 1) a') (hf : ∀ a, I N a → ∃ r, f a = some (.inr r) ∧ Q r) {a : α} (h : I 0 a) : ∃ r, wloop f 1000 a = some r ∧ Q r := by
  have key : ∀ fuel j a, j ≤ N → N < fuel + j → I j a → ∃ r, wloop f fuel a = some r ∧ Q r := by
    intro fuel
    induction fuel with
    | zero => intro j a h1 h2; omega
    | succ n ih =>
      intro j a h1 h2 hI
      rcases Nat.lt_or_ge j N with h | h
      · obtain ⟨a', e, i⟩ := hs j a h hI
        rw [wloop, e]
        exact ih (j + 1) a' h (by omega) i
      · have : j = N := by omega
        subst this
        obtain ⟨r, e, q⟩ := hf a hI
        exact ⟨r, by rw [wloop, e], q⟩
  exact key 1000 0 a (Nat.zero_le _) (by omega) h
theorem pDel_ok {S : St} {T : AT} {x : Nat} (hx2 : 2 ≤ x) (hx : x < 42) (w : WF T) (hc : CLO T none) (h : RE S T) (hC : RC S T) : ∃ S', X4_performDeleting S (nI x) = some S' ∧ RE S' (stepD T x) ∧ RC S' (stepD T x) ∧ FE S S' := by
  obtain ⟨h2, h3, h4, h5, h6⟩ := h
  unfold X4_performDeleting stepD
  rw [has_ok h2 hx, bs]
  cases ht : tTh T x
  · rw [if_pos bit0, if_neg (by decide)]
    exact ⟨S, rfl, ⟨h2, h3, h4, h5, h6⟩, hC, FE.rfl' S⟩
  · obtain ⟨a, b⟩ := del0 hx2 w hc
    have RI := rehang_inv hx2 hx a b fu_s
    unfold X4_performDeleting_b16 X4_performDeleting_b23 X4_performDeleting_b33
    rw [if_neg bit1, if_pos (in42 hx), if_pos (in42 hx), cl42 hx, nar0, if_pos rfl]
    generalize hS1 : up (up (up S 2 (upd (S 2) x 0)) 3 _) 0 _ = S1
    have f0 : S1 0 = upd (S 0) 10 (S 0 10 - 1) := by rw [← hS1, up_s, up_n (by decide), up_n (by decide)]
    have f2 : S1 2 = upd (S 2) x 0 := by rw [← hS1, up_n (by decide), up_n (by decide), up_s]
    have f3 : S1 3 = upd (S 3) x (-1) := by rw [← hS1, up_n (by decide), up_s, up_n (by decide)]
    have ff : ∀ k, k ≠ 0 → k ≠ 2 → k ≠ 3 → S1 k = S k := fun k a b c => by rw [← hS1, up_n a, up_n c, up_n b]
    have g2 : E2 S1 (sTh T x false) := fun k hk => by
      rw [f2]
      show upd (S 2) x 0 k = bI (fu (tTh T) x false k)
      by_cases hk' : k = x
      · rw [hk', upd_s, fu_s]; rfl
      · rw [upd_n hk', fu_n hk']; exact h2 k hk
    have g3 : E3 S1 (sTh T x false) (-1) := fun k hk _ => by
      rw [f3]
      show upd (S 3) x (-1) k = if fu (tTh T) x false k = true ∧ k ≠ 0 then nI (tPa T k) else -1
      by_cases hk' : k = x
      · rw [hk', upd_s, fu_s, if_neg (fun q => absurd q.1 (by decide))]
      · rw [upd_n hk', fu_n hk']; exact h3 k hk (nI_nn (by omega))
    have g4 : E4 S1 (sTh T x false) := fun k hk => by rw [ff 4 (by decide) (by decide) (by decide)]; exact h4 k hk
    have gf : FE S S1 := ⟨fun k hk => ff k (by omega) (by omega) (by omega), fun j hj => by rw [f0, upd_n hj]⟩
    have e5 : S1 5 = S 5 := ff 5 (by decide) (by decide) (by decide)
    have e6 : S1 6 = S 6 := ff 6 (by decide) (by decide) (by decide)
    refine wl_inv (f := fun a' : (St × Int32 × Int32) => X4_performDeleting_H35 a'.1 a'.2.1 a'.2.2) (N := 42) (Q := fun S' => RE S' (fr (rehang x) (sTh T x false) 42) ∧ RC S' (fr (rehang x) (sTh T x false) 42) ∧ FE S S') (fun j a => ∃ U, a = (U, nI x, nI j) ∧ E2 U (fr (rehang x) (sTh T x false) j) ∧ E3 U (fr (rehang x) (sTh T x false) j) (-1) ∧ E4 U (fr (rehang x) (sTh T x false) j) ∧ ∀ k, k ≠ 3 → k ≠ 4 → U k = S1 k) (by decide) ?_ ?_ ⟨S1, rfl, g2, g3, g4, fun _ _ _ => rfl⟩
    · rintro j a hj ⟨U, rfl, k2, k3, k4, kf⟩
      obtain ⟨⟨v0, v1, v2, v3, v4, v5, v6⟩, _, _, _, _, _⟩ := RI j (by omega)
      show ∃ a', X4_performDeleting_H35 U (nI x) (nI j) = some (.inl a') ∧ ∃ V, a' = (V, nI x, nI (j + 1)) ∧ E2 V (rehang x j (fr (rehang x) (sTh T x false) j)) ∧ E3 V (rehang x j (fr (rehang x) (sTh T x false) j)) (-1) ∧ E4 V (rehang x j (fr (rehang x) (sTh T x false) j)) ∧ ∀ k, k ≠ 3 → k ≠ 4 → V k = S1 k
      generalize fr (rehang x) (sTh T x false) j = Z at k2 k3 k4 v0 v1 v2 v3 v4 v5 v6
      unfold X4_performDeleting_H35 X4_performDeleting_b57 rehang
      rw [if_neg (ge42 hj), if_pos (in42 hj), cl42 hj, k3 j hj (nI_nn (by omega)), nI_succ]
      by_cases hq : tTh Z j = true ∧ j ≠ 0 ∧ tPa Z j = x
      · rw [if_pos ((paI_eq hx (v1 j hj)).mpr hq), if_pos hq]
        obtain ⟨V, r0, r2, r3, r4, rf⟩ := settle_ok (p := 1) hq.2.1 hj (by decide) v1 v3 k2 (E3.all k3 _) k4 hq.1
        refine ⟨_, by rw [show (1 : Int32) = nI 1 from rfl, r0]; rfl, V, rfl, r2, r3, r4, fun k a b => (rf k a b).trans (kf k a b)⟩
      · rw [if_neg (fun q => hq ((paI_eq hx (v1 j hj)).mp q)), if_neg hq]
        exact ⟨_, rfl, U, rfl, k2, k3, k4, kf⟩
    · rintro a ⟨U, rfl, k2, k3, k4, kf⟩
      show ∃ r, X4_performDeleting_H35 U (nI x) (nI 42) = some (.inr r) ∧ _
      unfold X4_performDeleting_H35 X4_performDeleting_b63
      rw [if_pos le42]
      obtain ⟨_, _, i3, _, i5, i6⟩ := RI 42 (Nat.le_refl 42)
      refine ⟨U, rfl, ⟨k2, k3, k4, fun k hk => ?_, fun k hk => ?_⟩, ?_, gf.trans ⟨fun k hk => kf k (by omega) (by omega), fun j _ => by rw [kf 0 (by decide) (by decide)]⟩⟩
      · rw [kf 5 (by decide) (by decide), e5, i5]; exact h5 k hk
      · rw [kf 6 (by decide) (by decide), e6, i6]; exact h6 k hk
      · unfold RC
        rw [kf 0 (by decide) (by decide), f0, upd_s, hC, i3]
        show _ = nI (cntF (fu (tTh T) x false) 42)
        have := cntF_del ht 42
        rw [if_pos hx] at this
        rw [← this]
        exact nI_pred _
