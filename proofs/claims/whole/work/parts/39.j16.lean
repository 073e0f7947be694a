/-! PURE 16: classes, rights, referrals, filters made -/
def SAMS (m : Nat) (a : Option (Nat × St)) (b : Option St) : Prop := ∃ k S' M', a = some (k, S') ∧ b = some M' ∧ INV m S' M' ∧ k < 4 ∧ M' 0 25 = nI k
theorem sams_err {m k : Nat} {S M : St} (h : INV m S M) (hk : k < 4) : SAMS m (some (k, S)) (some (up M 0 (upd (M 0) 25 (nI k)))) := ⟨k, S, _, rfl, rfl, h.qm (qm25 M _), hk, by rw [up_s, upd_s]⟩
theorem or16 : ∀ a, a < 16 → ∀ b, b < 16 → nI b ||| nI a = nI (b ||| a) ∧ b ||| a < 16 := by decide +kernel
theorem setClass_no {M : St} {x1 x2 x3 : Int32} {k : Nat} (h0 : k ≠ 0) (hk : k < 4) : X6_setClass_b62 M x1 x2 x3 (nI k) = some (up M 0 (upd (M 0) 25 (nI k))) := by
  unfold X6_setClass_b62 X6_setClass_b65 X6_setClass_b88
  rw [up_s, upd_s, if_neg (nI_ne0 (by omega) (by omega))]
theorem one0 : ¬ (1 : Int32) = 0 := by decide
theorem scM {M : St} {x1 x2 x3 : Int32} : (X6_isIn x1 0 2 = some 1 → X6_isIn x2 0 15 = some 0 → X6_setClass M x1 x2 x3 = X6_setClass_b62 M x1 x2 x3 2) ∧ (X6_isIn x1 0 2 = some 1 → X6_isIn x2 0 15 = some 1 → X6_isIn x3 0 15 = some 0 → X6_setClass M x1 x2 x3 = X6_setClass_b62 M x1 x2 x3 2) ∧ (X6_isIn x1 0 2 = some 1 → X6_isIn x2 0 15 = some 1 → X6_isIn x3 0 15 = some 1 → X6_setClass M x1 x2 x3 = if M 0 2 ≤ 0 then X6_setClass_b62 M x1 x2 x3 0 else X6_setClass_b62 M x1 x2 x3 3) ∧ (X6_isIn x1 0 2 = some 0 → X6_setClass M x1 x2 x3 = X6_setClass_b62 M x1 x2 x3 1) := by
  unfold X6_setClass X6_setClass_b24 X6_setClass_b25
  refine ⟨fun e2 e4 => ?_, fun e2 e4 e6 => ?_, fun e2 e4 e6 => ?_, fun e2 => ?_⟩
  · rw [e4, bs, if_pos rfl, e2, bs, if_neg one0, if_pos rfl]
  · rw [e4, bs, if_neg one0, e6, bs, if_pos rfl, e2, bs, if_neg one0, if_pos rfl]
  · rw [e4, bs, if_neg one0, e6, bs, if_neg one0, e2, bs, if_neg one0, if_neg one0]
  · rcases arg_both x2 0 15 with ⟨_, _, _, e4⟩ | ⟨_, e4⟩
    · rcases arg_both x3 0 15 with ⟨_, _, _, e6⟩ | ⟨_, e6⟩
      · rw [e4, bs, if_neg one0, e6, bs, if_neg one0, e2, bs, if_pos rfl]
      · rw [e4, bs, if_neg one0, e6, bs, if_pos rfl, e2, bs, if_pos rfl]
    · rw [e4, bs, if_pos rfl, e2, bs, if_pos rfl]
theorem api_setClass {m : Nat} {S M : St} (h : INV m S M) (x1 x2 x3 : Int32) : SAMS m (X5_setClass S x1 x2 x3) (X6_setClass M x1 x2 x3) := by
  have hh := h
  obtain ⟨n, lg, tm, mk, bt, N, A, L, L', F, hI⟩ := hh
  unfold X5_setClass X5_setClass_b49
  rcases ix_3 x1 with ⟨i, hi, rfl, e1, e2⟩ | ⟨_, e1, e2⟩
  · rw [e1, bs, if_pos rfl]
    rcases arg_both x2 0 15 with ⟨u1, u2, e3, e4⟩ | ⟨e3, e4⟩
    · rw [e3, bs, if_pos rfl]
      rcases arg_both x3 0 15 with ⟨u3, u4, e5, e6⟩ | ⟨e5, e6⟩
      · rw [e5, bs, if_pos rfl, scM.2.2.1 e2 e4 e6]
        obtain ⟨a, ha, rfl⟩ := i_nat (hi := 15) (n := 15) rfl u1 u2
        obtain ⟨b, hb, rfl⟩ := i_nat (hi := 15) (n := 15) rfl u3 u4
        obtain ⟨ob, ob2⟩ := or16 a (by omega) b (by omega)
        obtain ⟨⟨aw, amk⟩, ⟨b1, b2⟩, ⟨c1, c2⟩, ⟨d1, d2, d3, d4, d5⟩, ⟨e1', e2', e3', e4', e5'⟩, ⟨f1, f2⟩, ⟨g1, g2⟩, ⟨h1, h2, h3, h4⟩⟩ := hI
        have h40 := aw.1
        rw [b1, c1]
        rcases Nat.eq_zero_or_pos n with hn | hn
        · subst hn
          have nil : ∀ (q : Nat) (K : List Nat), KN 0 bt q (stp tm mk) K → K = [] := fun q K hK => by
            cases K with
            | nil => rfl
            | cons x t => exact absurd ((hK.2 x).mp (List.mem_cons.mpr (.inl rfl))).1 (Nat.not_lt_zero x)
          have l1 := nil m L d3
          have l2 := nil (1 - m) L' e3'
          subst l1
          subst l2
          rw [if_pos (by decide), if_pos (by decide)]
          unfold X0_define X0_define_b9 X0_define_b20 X6_setClass_b62 X6_setClass_b65 X6_setClass_b79 X6_setClass_b88
          rw [put_in hi (by decide), bs, put_in hi (by decide), bs, bs, e25, if_pos rfl, if_pos (in3 hi), if_pos (in3 hi), clN (by omega), ob]
          generalize hV : up (up S 22 (upd (S 22) i (nI a))) 23 _ = V
          generalize hW : up (up (up M 0 (upd (M 0) 25 0)) 1 _) 2 _ = W
          have v22 : V 22 = upd (S 22) i (nI a) := by rw [← hV, up_n (by decide), up_s]
          have v23 : V 23 = upd (S 23) i (nI (b ||| a)) := by rw [← hV, up_s, up_n (by decide)]
          have vf : ∀ k, k ≠ 22 → k ≠ 23 → V k = S k := fun k x y => by rw [← hV, up_n y, up_n x]
          have w0 : W 0 = upd (M 0) 25 0 := by rw [← hW, up_n (by decide), up_n (by decide), up_s]
          have w1 : W 1 = upd (M 1) i (nI a) := by rw [← hW, up_n (by decide), up_s, up_n (by decide)]
          have w2 : W 2 = upd (M 2) i (nI (b ||| a)) := by rw [← hW, up_s, up_n (by decide), up_n (by decide)]
          have wf : ∀ k, k ≠ 0 → k ≠ 1 → k ≠ 2 → W k = M k := fun k x y z => by rw [← hW, up_n z, up_n y, up_n x]
          have cl : ∀ (U U' : St) p q p' q', (p = 22 ∧ q = 23 ∧ p' = 22 ∧ q' = 23) ∨ True → U' p' = upd (U p) i (nI a) → U' q' = upd (U q) i (nI (b ||| a)) → RCL U p q N A → RCL U' p' q' (fu N i a) (fu A i (b ||| a)) := fun U U' p q p' q' _ x y z j hj => by
            rw [x, y]
            by_cases h : j = i
            · rw [h, upd_s, upd_s, fu_s, fu_s]
              exact ⟨rfl, by omega, rfl, ob2⟩
            · rw [upd_n h, upd_n h, fu_n h, fu_n h]
              exact z j hj
          have t1 : TR V m 0 lg bt (stp tm mk) (fu A i (b ||| a)) [] := TR.fr (S := S) ⟨d1, d2, d3, d4, d5⟩ (fun k hk => vf k (by omega) (by omega))
          have t2 : TR (swS V) (1 - m) 0 lg bt (stp tm mk) (fu A i (b ||| a)) [] := TR.fr (S := swS S) ⟨e1', e2', e3', e4', e5'⟩ (fun k hk => by
            show V (sw k) = S (sw k)
            rw [sw_lo hk]
            exact vf _ (by omega) (by omega))
          refine ⟨0, V, W, rfl, rfl, ⟨0, lg, tm, mk, bt, fu N i a, fu A i (b ||| a), [], [], F, ⟨aw, amk⟩, ⟨by rw [vf 14 (by decide) (by decide)]; exact b1, fun c hc => absurd hc (Nat.not_lt_zero c)⟩, ⟨by rw [w0, upd_n (by decide)]; exact c1, fun c hc => absurd hc (Nat.not_lt_zero c)⟩, t1, t2, ⟨cl S V 22 23 22 23 (.inr trivial) v22 v23 f1, cl M W 1 2 1 2 (.inr trivial) w1 w2 f2⟩, ⟨?_, ?_⟩, ⟨h1, ?_, ?_, ?_⟩⟩, by decide, by rw [w0, upd_s]; rfl⟩
          · rw [vf 25 (by decide) (by decide), wf 12 (by decide) (by decide) (by decide)]; exact g1
          · rw [vf 26 (by decide) (by decide), wf 13 (by decide) (by decide) (by decide)]; exact g2
          · rw [vf 27 (by decide) (by decide)]; exact h2
          · rw [w0, upd_n (by decide)]; exact h3
          · intro j hj
            rw [vf 28 (by decide) (by decide), vf 29 (by decide) (by decide), vf 30 (by decide) (by decide), wf 14 (by decide) (by decide) (by decide), wf 15 (by decide) (by decide) (by decide), wf 16 (by decide) (by decide) (by decide)]
            exact h4 j hj
        · rw [if_neg (nI_nle hn (by omega)), if_neg (nI_nle hn (by omega)), show (3 : Int32) = nI 3 from rfl, setClass_no (by decide) (by decide)]
          exact sams_err h (by decide)
      · rw [e5, bs, if_neg (by decide), scM.2.1 e2 e4 e6, show (2 : Int32) = nI 2 from rfl, setClass_no (by decide) (by decide)]
        exact sams_err h (by decide)
    · rw [e3, bs, if_neg (by decide), scM.1 e2 e4, show (2 : Int32) = nI 2 from rfl, setClass_no (by decide) (by decide)]
      exact sams_err h (by decide)
  · rw [e1, bs, if_neg (by decide), scM.2.2.2 e2, show (1 : Int32) = nI 1 from rfl, setClass_no (by decide) (by decide)]
    exact sams_err h (by decide)
theorem setRight_no {M : St} {x1 x2 x3 : Int32} {k : Nat} (h0 : k ≠ 0) (hk : k < 4) : X6_setRight_b38 M x1 x2 x3 (nI k) = some (up M 0 (upd (M 0) 25 (nI k))) := by
  unfold X6_setRight_b38 X6_setRight_b41 X6_setRight_b60
  rw [up_s, upd_s, if_neg (nI_ne0 (by omega) (by omega))]
theorem tri {x : Int32} (a : ¬ x < -1) (b : x ≤ 1) : x = -1 ∨ x = 0 ∨ x = 1 := by
  rw [Int32.lt_iff_toInt_lt] at a
  rw [Int32.le_iff_toInt_le] at b
  have e1 : (-1 : Int32).toInt = -1 := rfl
  have e2 : (0 : Int32).toInt = 0 := rfl
  have e3 : (1 : Int32).toInt = 1 := rfl
  have : x.toInt = (-1 : Int32).toInt ∨ x.toInt = (0 : Int32).toInt ∨ x.toInt = (1 : Int32).toInt := by omega
  exact this.imp (fun q => Int32.toInt_inj.mp q) (fun q => q.imp (fun q => Int32.toInt_inj.mp q) (fun q => Int32.toInt_inj.mp q))
theorem ix42 (i k : Nat) : nI i * 42 + nI k = nI (42 * i + k) := by
  rw [show (42 : Int32) = nI 42 from rfl, pk_mul, nI_add, Nat.mul_comm]
theorem ix42' (i k : Nat) : 42 * nI i + nI k = nI (42 * i + k) := by
  rw [show (42 : Int32) = nI 42 from rfl, pk_mul, nI_add]
theorem api_setRight {m : Nat} {S M : St} (h : INV m S M) (x1 x2 x3 : Int32) : SAMS m (X5_setRight S x1 x2 x3) (X6_setRight M x1 x2 x3) := by
  have hh := h
  obtain ⟨n, lg, tm, mk, bt, N, A, L, L', F, hI⟩ := hh
  unfold X5_setRight X5_setRight_b27 X6_setRight X6_setRight_b20
  rcases ix_3 x1 with ⟨i, hi, rfl, e1, e2⟩ | ⟨_, e1, e2⟩
  · rw [e1, e2, bs, bs, if_pos rfl, if_neg (by decide)]
    rcases ix_42 x2 with ⟨k, hk, rfl, e3, e4⟩ | ⟨_, e3, e4⟩
    · rw [e3, e4, bs, bs, if_pos rfl, if_neg (by decide)]
      rcases arg_both x3 (-1) 1 with ⟨u1, u2, e5, e6⟩ | ⟨e5, e6⟩
      · rw [e5, e6, bs, bs, if_pos rfl, if_neg (by decide)]
        unfold X3_putRight X3_putRight_b14 X6_setRight_b38 X6_setRight_b41 X6_setRight_b60
        rw [ix42, ix42', put_in (by omega) (by decide), bs, bs, e25, if_pos rfl, if_pos (in126 (by omega)), clN (by omega)]
        generalize hV : up S 25 (upd (S 25) (42 * i + k) x3) = V
        generalize hW : up (up M 0 (upd (M 0) 25 0)) 12 _ = W
        have v25 : V 25 = upd (S 25) (42 * i + k) x3 := by rw [← hV, up_s]
        have vf : ∀ k, k ≠ 25 → V k = S k := fun k x => by rw [← hV, up_n x]
        have w0 : W 0 = upd (M 0) 25 0 := by rw [← hW, up_n (by decide), up_s]
        have w12 : W 12 = upd (M 12) (42 * i + k) x3 := by rw [← hW, up_s, up_n (by decide)]
        have wf : ∀ k, k ≠ 0 → k ≠ 12 → W k = M k := fun k x y => by rw [← hW, up_n y, up_n x]
        obtain ⟨a, ⟨b1, b2⟩, ⟨c1, c2⟩, d, e, ⟨f1, f2⟩, ⟨g1, g2⟩, ⟨h1, h2, h3, h4⟩⟩ := hI
        have hLM : LOGM W n lg tm mk bt := ⟨by rw [w0, upd_n (by decide)]; exact c1, fun c hc => by
          have q := (c2 c hc).1
          unfold LMj at q ⊢
          rw [wf 3 (by decide) (by decide), wf 4 (by decide) (by decide), wf 5 (by decide) (by decide), wf 6 (by decide) (by decide), wf 7 (by decide) (by decide), wf 8 (by decide) (by decide), wf 9 (by decide) (by decide), wf 10 (by decide) (by decide), wf 11 (by decide) (by decide)]
          exact ⟨q, (c2 c hc).2⟩⟩
        refine ⟨0, V, W, rfl, rfl, ⟨n, lg, tm, mk, bt, N, A, L, L', F, a, ⟨by rw [vf 14 (by decide)]; exact b1, fun c hc => ⟨(b2 c hc).1.fr2 (fun k p q => vf k (by omega)), by rw [vf 16 (by decide)]; exact (b2 c hc).2⟩⟩, hLM, d.fr (fun k hk => vf k (by omega)), e.fr (fun k hk => ?_), ⟨f1.fr (vf 22 (by decide)) (vf 23 (by decide)), f2.fr (wf 1 (by decide) (by decide)) (wf 2 (by decide) (by decide))⟩, ⟨fun j hj => ?_, ?_⟩, ⟨h1, ?_, ?_, ?_⟩⟩, by decide, by rw [w0, upd_s]; rfl⟩
        · show V (sw k) = S (sw k)
          rw [sw_lo hk]
          exact vf _ (by omega)
        · rw [v25, w12]
          by_cases q : j = 42 * i + k
          · rw [q, upd_s, upd_s]
            exact ⟨rfl, tri u1 u2⟩
          · rw [upd_n q, upd_n q]
            exact g1 j hj
        · rw [vf 26 (by decide), wf 13 (by decide) (by decide)]; exact g2
        · rw [vf 27 (by decide)]; exact h2
        · rw [w0, upd_n (by decide)]; exact h3
        · rw [vf 28 (by decide), vf 29 (by decide), vf 30 (by decide), wf 14 (by decide) (by decide), wf 15 (by decide) (by decide), wf 16 (by decide) (by decide)]
          exact h4
      · rw [e5, e6, bs, bs, if_neg (by decide), if_pos rfl, show (2 : Int32) = nI 2 from rfl, setRight_no (by decide) (by decide)]
        exact sams_err h (by decide)
    · rw [e3, e4, bs, bs, if_neg (by decide), if_pos rfl, show (1 : Int32) = nI 1 from rfl, setRight_no (by decide) (by decide)]
      exact sams_err h (by decide)
  · rw [e1, e2, bs, bs, if_neg (by decide), if_pos rfl, show (1 : Int32) = nI 1 from rfl, setRight_no (by decide) (by decide)]
    exact sams_err h (by decide)
theorem api_refer {m : Nat} {S M : St} (h : INV m S M) (x1 x2 : Int32) : SAMS m (X5_refer S x1 x2) (X6_refer M x1 x2) := by
  have hh := h
  obtain ⟨n, lg, tm, mk, bt, N, A, L, L', F, hI⟩ := hh
  unfold X5_refer X5_refer_b15 X6_refer X6_refer_b16 X6_refer_b19 X6_refer_b33
  rcases ix_42 x1 with ⟨i, hi, rfl, e1, e2⟩ | ⟨_, e1, e2⟩
  · rw [e1, e2, bs, bs, if_pos rfl, if_neg (by decide)]
    unfold X3_putReferral X3_putReferral_b17
    rw [if_neg (nI_pos (by omega)), if_neg (ge42 hi), if_pos (in42 hi), bs, e25, if_pos rfl, if_pos (in42 hi), cl42 hi]
    generalize vp_nar .boolean x2 = y
    generalize hV : up S 26 (upd (S 26) i y) = V
    generalize hW : up (up M 0 (upd (M 0) 25 0)) 13 _ = W
    have v26 : V 26 = upd (S 26) i y := by rw [← hV, up_s]
    have vf : ∀ k, k ≠ 26 → V k = S k := fun k x => by rw [← hV, up_n x]
    have w0 : W 0 = upd (M 0) 25 0 := by rw [← hW, up_n (by decide), up_s]
    have w13 : W 13 = upd (M 13) i y := by rw [← hW, up_s, up_n (by decide)]
    have wf : ∀ k, k ≠ 0 → k ≠ 13 → W k = M k := fun k x y => by rw [← hW, up_n y, up_n x]
    obtain ⟨a, ⟨b1, b2⟩, ⟨c1, c2⟩, d, e, ⟨f1, f2⟩, ⟨g1, g2⟩, ⟨h1, h2, h3, h4⟩⟩ := hI
    have hLM : LOGM W n lg tm mk bt := ⟨by rw [w0, upd_n (by decide)]; exact c1, fun c hc => by
      have q := (c2 c hc).1
      unfold LMj at q ⊢
      rw [wf 3 (by decide) (by decide), wf 4 (by decide) (by decide), wf 5 (by decide) (by decide), wf 6 (by decide) (by decide), wf 7 (by decide) (by decide), wf 8 (by decide) (by decide), wf 9 (by decide) (by decide), wf 10 (by decide) (by decide), wf 11 (by decide) (by decide)]
      exact ⟨q, (c2 c hc).2⟩⟩
    refine ⟨0, V, W, rfl, rfl, ⟨n, lg, tm, mk, bt, N, A, L, L', F, a, ⟨by rw [vf 14 (by decide)]; exact b1, fun c hc => ⟨(b2 c hc).1.fr2 (fun k p q => vf k (by omega)), by rw [vf 16 (by decide)]; exact (b2 c hc).2⟩⟩, hLM, d.fr (fun k hk => vf k (by omega)), e.fr (fun k hk => ?_), ⟨f1.fr (vf 22 (by decide)) (vf 23 (by decide)), f2.fr (wf 1 (by decide) (by decide)) (wf 2 (by decide) (by decide))⟩, ⟨?_, fun j hj => ?_⟩, ⟨h1, ?_, ?_, ?_⟩⟩, by decide, by rw [w0, upd_s]; rfl⟩
    · show V (sw k) = S (sw k)
      rw [sw_lo hk]
      exact vf _ (by omega)
    · rw [vf 25 (by decide), wf 12 (by decide) (by decide)]; exact g1
    · rw [v26, w13]
      by_cases q : j = i
      · rw [q, upd_s, upd_s]
      · rw [upd_n q, upd_n q]
        exact g2 j hj
    · rw [vf 27 (by decide)]; exact h2
    · rw [w0, upd_n (by decide)]; exact h3
    · rw [vf 28 (by decide), vf 29 (by decide), vf 30 (by decide), wf 14 (by decide) (by decide), wf 15 (by decide) (by decide), wf 16 (by decide) (by decide)]
      exact h4
  · rw [e1, e2, bs, bs, if_neg (by decide), if_pos rfl, up_s, upd_s, if_neg (by decide)]
    exact sams_err (k := 1) h (by decide)
