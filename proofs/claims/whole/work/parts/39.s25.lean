/-! PURE 25: search -/
def SF (S M : St) (T : AT) (N A : Nat → Nat) (F : Nat) (fk fa fb : Nat → Nat) : Prop := (E3 S T (-1) ∧ E4 S T ∧ E5 S T ∧ E6 S T ∧ RCL S 22 23 N A ∧ FG S 28 29 30 F fk fa fb) ∧ (M18 M T ∧ M19 M T (-1) ∧ M20 M T ∧ M21 M T ∧ M22 M T ∧ RCL M 1 2 N A ∧ FG M 14 15 16 F fk fa fb) ∧ RR S M
theorem SF.q {S M S' M' : St} {T : AT} {N A : Nat → Nat} {F : Nat} {fk fa fb : Nat → Nat} (h : SF S M T N A F fk fa fb) (hS : QE S S') (hM : ∀ k, k ≠ 17 → M' k = M k) : SF S' M' T N A F fk fa fb := by
  obtain ⟨⟨a1, a2, a3, a4, a5, a6⟩, ⟨b1, b2, b3, b4, b5, b6, b7⟩, c⟩ := h
  refine ⟨⟨fun k hk q => by rw [hS 3 (by decide)]; exact a1 k hk q, fun k hk => by rw [hS 4 (by decide)]; exact a2 k hk, fun k hk => by rw [hS 5 (by decide)]; exact a3 k hk, fun k hk => by rw [hS 6 (by decide)]; exact a4 k hk, a5.fr (hS 22 (by decide)) (hS 23 (by decide)), ?_⟩, ⟨fun k hk => by rw [hM 18 (by decide)]; exact b1 k hk, fun k hk q r => by rw [hM 19 (by decide)]; exact b2 k hk q r, fun k hk => by rw [hM 20 (by decide)]; exact b3 k hk, fun k hk => by rw [hM 21 (by decide)]; exact b4 k hk, fun k hk => by rw [hM 22 (by decide)]; exact b5 k hk, b6.fr (hM 1 (by decide)) (hM 2 (by decide)), ?_⟩, ?_⟩
  · unfold FG
    rw [hS 28 (by decide), hS 29 (by decide), hS 30 (by decide)]
    exact a6
  · unfold FG
    rw [hM 14 (by decide), hM 15 (by decide), hM 16 (by decide)]
    exact b7
  · unfold RR
    rw [hS 25 (by decide), hS 26 (by decide), hM 12 (by decide), hM 13 (by decide)]
    exact c
theorem lockQ {T : AT} {N A : Nat → Nat} {F base sc u x : Nat} {fk fa fb : Nat → Nat} (x6 : Int32) (hb : base < 42) (hsc : sc < 3) (hu : u < 3) (hx : x < F) (w : WF T) (hcl : CLO T none) : ∀ d k (cur : Option Nat) (S M : St) (cn : Nat) (vf : Nat → Nat), k + d = 42 → cn ≤ k → SF S M T N A F fk fa fb → (∀ c, cur = some c → inV T base sc c) → (∀ i, i < k → vf i < 42) → (∀ i j, i < j → j < k → lexQ (pthQ T 42 (vf i)) (pthQ T 42 (vf j))) → (∀ i c, i < k → cur = some c → lexQ (pthQ T 42 (vf i)) (pthQ T 42 c)) → ∃ v S' M', wloop (fun a' : (St × Int32 × Int32 × Int32 × Int32 × Int32 × Int32 × Int32 × Int32) => X5_search_H81 a'.1 a'.2.1 a'.2.2.1 a'.2.2.2.1 a'.2.2.2.2.1 a'.2.2.2.2.2.1 a'.2.2.2.2.2.2.1 a'.2.2.2.2.2.2.2.1 a'.2.2.2.2.2.2.2.2) (958 + d) (S, nI u, nI base, nI sc, nI x, x6, nI cn, oI cur, nI k) = some (0, v, S') ∧ wloop (fun a' : (St × Int32 × Int32 × Int32 × Int32 × Int32 × Int32 × Int32) => X6_search_H98 a'.1 a'.2.1 a'.2.2.1 a'.2.2.2.1 a'.2.2.2.2.1 a'.2.2.2.2.2.1 a'.2.2.2.2.2.2.1 a'.2.2.2.2.2.2.2) (958 + d) (M, nI u, nI base, nI sc, nI x, x6, nI cn, oI cur) = some (v, M') ∧ QE S S' ∧ ∀ j, j ≠ 17 → M' j = M j := by
  have e1 : ∀ (S : St) a b z e y z10, X5_search_H81 S a b z e x6 y (-1) z10 = some (.inr (0, -1, S)) := fun S a b z e y z10 => by
    unfold X5_search_H81 X5_search_b140
    by_cases h : (42 : Int32) ≤ z10
    · rw [if_pos h]
      rfl
    · rw [if_neg h, if_pos rfl]
      rfl
  have e2 : ∀ (M : St) a b z e y, X6_search_H98 M a b z e x6 y (-1) = some (.inr (-1, M)) := fun M a b z e y => by
    unfold X6_search_H98 X6_search_b185
    rw [if_pos (by decide)]
    rfl
  intro d
  induction d with
  | zero =>
    intro k cur S M cn vf hk hcn hSF hV v1 v2 v3
    cases cur with
    | none => exact ⟨-1, S, M, wl_inr (n := 957) (e1 S _ _ _ _ _ _), wl_inr (n := 957) (e2 M _ _ _ _ _), fun _ _ => rfl, fun _ _ => rfl⟩
    | some c =>
      exfalso
      obtain ⟨i, j, a, b, e⟩ := php 42 (fu vf 42 c) (fun i hi => by
        by_cases h : i = 42
        · rw [h, fu_s]; exact (hV c rfl).2.1
        · rw [fu_n h]; exact v1 i (by omega))
      rw [fu_n (show i ≠ 42 by omega)] at e
      by_cases hj : j = 42
      · rw [hj, fu_s] at e
        have q := v3 i c (by omega) rfl
        rw [e] at q
        exact lexQ_irr _ q
      · rw [fu_n hj] at e
        have q := v2 i j a (by omega)
        rw [e] at q
        exact lexQ_irr _ q
  | succ d ih =>
    intro k cur S M cn vf hk hcn hSF hV v1 v2 v3
    cases cur with
    | none => exact ⟨-1, S, M, wl_inr (n := 958 + d) (e1 S _ _ _ _ _ _), wl_inr (n := 958 + d) (e2 M _ _ _ _ _), fun _ _ => rfl, fun _ _ => rfl⟩
    | some c =>
      have hVc := hV c rfl
      have c1 := hVc.1
      have c2 := hVc.2.1
      have hSF' := hSF
      obtain ⟨⟨a1, a2, a3, a4, a5, a6⟩, ⟨b1, b2, b3, b4, b5, b6, b7⟩, _⟩ := hSF'
      obtain ⟨⟨tv, S1⟩, t0, t1, t2⟩ := truthFor_ok (N := N) (A := A) c2 hx w.2.2.2.2.1 a3 a4 a5 a6
      obtain ⟨⟨tw, M1⟩, m0, m1, m2⟩ := filtered_ok (N := N) (A := A) c2 hx w.2.2.2.2.1 w.2.2.2.2.2.1 b4 b5 b6 b7
      have tt : tw = tv := m1.trans t1.symm
      subst tt
      have t2' : QE S S1 := t2
      have m2' : ∀ j, j ≠ 17 → M1 j = M j := m2
      have hS1 := hSF.q t2' m2'
      have hS1' := hS1
      obtain ⟨⟨p1, p2, _, _, _, _⟩, ⟨q1, q2, q3, _, _, _, _⟩, qr⟩ := hS1'
      obtain ⟨rc, r0, r1⟩ := counted_ok hu c2 c1 w.1 w.2.1 w.2.2.1 hcl p1 q2 qr
      obtain ⟨o, n1, n2, n3, n4⟩ := next_both hb hsc w.1 w.2.1 w.2.2.1 w.2.2.2.1 hcl p1 p2 q1 q2 q3 qr.2 hVc
      have step : ∀ cn', cn' ≤ k + 1 → ∃ v S' M', wloop (fun a' : (St × Int32 × Int32 × Int32 × Int32 × Int32 × Int32 × Int32 × Int32) => X5_search_H81 a'.1 a'.2.1 a'.2.2.1 a'.2.2.2.1 a'.2.2.2.2.1 a'.2.2.2.2.2.1 a'.2.2.2.2.2.2.1 a'.2.2.2.2.2.2.2.1 a'.2.2.2.2.2.2.2.2) (958 + d) (S1, nI u, nI base, nI sc, nI x, x6, nI cn', oI o, nI (k + 1)) = some (0, v, S') ∧ wloop (fun a' : (St × Int32 × Int32 × Int32 × Int32 × Int32 × Int32 × Int32) => X6_search_H98 a'.1 a'.2.1 a'.2.2.1 a'.2.2.2.1 a'.2.2.2.2.1 a'.2.2.2.2.2.1 a'.2.2.2.2.2.2.1 a'.2.2.2.2.2.2.2) (958 + d) (M1, nI u, nI base, nI sc, nI x, x6, nI cn', oI o) = some (v, M') ∧ QE S S' ∧ ∀ j, j ≠ 17 → M' j = M j := fun cn' hcn' => by
        obtain ⟨v, S', M', x1, x2, x3, x4⟩ := ih (k + 1) o S1 M1 cn' (fu vf k c) (by omega) hcn' hS1 (fun s hs => (n4 s hs).2) (fun i hi => by
          by_cases h : i = k
          · rw [h, fu_s]; exact c2
          · rw [fu_n h]; exact v1 i (by omega)) (fun i j hij hj => by
          rw [fu_n (show i ≠ k by omega)]
          by_cases h : j = k
          · rw [h, fu_s]; exact v3 i c (by omega) rfl
          · rw [fu_n h]; exact v2 i j hij (by omega)) (fun i s hi hs => by
          by_cases h : i = k
          · rw [h, fu_s]; exact (n4 s hs).1
          · rw [fu_n h]; exact lexQ_tr _ _ _ (v3 i c (by omega) rfl) (n4 s hs).1)
        exact ⟨v, S', M', x1, x2, fun j hj => (x3 j hj).trans (t2' j hj), fun j hj => (x4 j hj).trans (m2' j hj)⟩
      have s121 : ∀ z : Int32, X5_search_b121 S1 (nI u) (nI base) (nI sc) (nI x) x6 z (nI c) (nI k) = some (.inl (S1, nI u, nI base, nI sc, nI x, x6, z, oI o, nI (k + 1))) := fun z => by
        unfold X5_search_b121
        rw [n1, bs, nI_succ]
      have s159 : ∀ y z : Int32, X6_search_b159 M1 (nI u) (nI base) (nI sc) (nI x) x6 (nI c) y z = some (.inl (M1, nI u, nI base, nI sc, nI x, x6, z + y, oI o)) := fun y z => by
        unfold X6_search_b159 X6_search_b180
        by_cases h : sc = 0
        · rw [if_pos (show nI sc = 0 by rw [h]; rfl), n2 h]
          rfl
        · rw [if_neg (nI_ne0 (by omega) (by omega)), n3 h, bs]
      have z0 : nI cn + 0 = nI cn := nI_add cn 0
      have z1 : nI cn + 1 = nI (cn + 1) := nI_add cn 1
      have hE : X5_search_H81 S (nI u) (nI base) (nI sc) (nI x) x6 (nI cn) (oI (some c)) (nI k) = X5_search_b105 S1 (nI u) (nI base) (nI sc) (nI x) x6 (nI cn) (nI c) (nI k) (bI (decide (tw = 1 ∧ rc = 0))) := by
        unfold X5_search_H81 X5_isFound
        rw [oI_s, if_neg (ge42 (by omega)), if_neg (nI_nn (by omega)), t0, bs]
        show (X5_isFound_b11 S1 (nI u) (nI c) tw).bind _ = _
        unfold X5_isFound_b11 X5_isFound_b33 X5_isFound_b34
        by_cases h1 : tw = 1
        · rw [if_pos h1, r0, bs]
          by_cases h2 : rc = 0
          · rw [if_pos h2, if_pos (by decide), bs, decide_eq_true (⟨h1, h2⟩ : tw = 1 ∧ rc = 0)]
            rfl
          · rw [if_neg h2, if_pos (by decide), bs, decide_eq_false (fun q : tw = 1 ∧ rc = 0 => h2 q.2)]
            rfl
        · rw [if_neg h1, if_pos (by decide), bs, decide_eq_false (fun q : tw = 1 ∧ rc = 0 => h1 q.1)]
          rfl
      have hM : X6_search_H98 M (nI u) (nI base) (nI sc) (nI x) x6 (nI cn) (oI (some c)) = X6_search_b130 M1 (nI u) (nI base) (nI sc) (nI x) x6 (nI cn) (nI c) (bI (decide (tw = 1 ∧ rc = 0))) := by
        unfold X6_search_H98
        rw [oI_s, if_neg (nI_pos (by omega)), m0, bs]
        show X6_search_b111 M1 (nI u) (nI base) (nI sc) (nI x) x6 (nI cn) (nI c) tw = _
        unfold X6_search_b111 X6_search_b129
        by_cases h1 : tw = 1
        · rw [if_pos h1, r1, bs]
          by_cases h2 : rc = 0
          · rw [if_pos h2, decide_eq_true (⟨h1, h2⟩ : tw = 1 ∧ rc = 0)]
            rfl
          · rw [if_neg h2, decide_eq_false (fun q : tw = 1 ∧ rc = 0 => h2 q.2)]
            rfl
        · rw [if_neg h1, decide_eq_false (fun q : tw = 1 ∧ rc = 0 => h1 q.1)]
          rfl
      unfold X5_search_b105 X5_search_b115 at hE
      unfold X6_search_b130 X6_search_b144 X6_search_b147 at hM
      rw [s121, s121] at hE
      rw [s159, s159, z0, z1] at hM
      rw [z1] at hE
      cases hd : decide (tw = 1 ∧ rc = 0)
      · rw [hd, if_pos bit0] at hE hM
        rw [if_pos bit0] at hM
        obtain ⟨v, S', M', x1, x2, x3, x4⟩ := step cn (by omega)
        exact ⟨v, S', M', (wl_inl (n := 958 + d) hE).trans x1, (wl_inl (n := 958 + d) hM).trans x2, x3, x4⟩
      · rw [hd, if_neg bit1] at hE hM
        by_cases h6 : nI cn = x6
        · rw [if_pos h6] at hE hM
          exact ⟨nI c, S1, M1, wl_inr (n := 958 + d) hE, wl_inr (n := 958 + d) hM, t2', m2'⟩
        · rw [if_neg h6] at hE hM
          rw [if_neg bit1] at hM
          obtain ⟨v, S', M', x1, x2, x3, x4⟩ := step (cn + 1) (by omega)
          exact ⟨v, S', M', (wl_inl (n := 958 + d) hE).trans x1, (wl_inl (n := 958 + d) hM).trans x2, x3, x4⟩
