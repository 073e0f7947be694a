/-! PURE 26: search, the call -/
theorem search_no {M : St} {x2 x3 x4 x5 x6 : Int32} {k : Nat} (h0 : k ≠ 0) (hk : k < 4) : X6_search_b64 M x2 x3 x4 x5 x6 (nI k) = some (0, up M 0 (upd (M 0) 25 (nI k))) := by
  unfold X6_search_b64 X6_search_b67
  rw [up_s, upd_s, if_neg (nkp h0 hk)]
theorem search_no1 {M : St} {x2 x3 x4 x5 x6 : Int32} : X6_search_b36 M x2 x3 x4 x5 x6 = some (0, up M 0 (upd (M 0) 25 (nI 1))) := by
  unfold X6_search_b36 X6_search_b37
  rw [if_pos rfl]
  exact search_no (k := 1) (by decide) (by decide)
theorem ne_par {T : AT} {base s : Nat} (w0 : W0 T) (w1 : W1 T) (w2 : W2 T) (hb : base < 42) (h : tPa T s = base) (h0 : s ≠ 0) : s ≠ base := fun q => by
  rw [q] at h
  obtain ⟨n, _, hn2, _⟩ := pw_bd w1 w2 hb
  have : ∀ j, pw (tPa T) j base = base := fun j => by
    induction j with
    | zero => rfl
    | succ j ih => rw [pw_s, ih, h]
  rw [this n] at hn2
  rw [q, hn2] at h0
  exact h0 rfl
theorem api_search {m : Nat} {S M : St} (hm : m < 2) (h : INV m S M) (x2 x3 x4 x5 x6 : Int32) : SAME m (X5_search_b5 S x2 x3 x4 x5 x6) (X6_search M (nI m) x2 x3 x4 x5 x6) := by
  have hh := h
  obtain ⟨n, lg, tm, mk, bt, N, A, L, L', F, hI⟩ := hh
  have hI' := hI
  obtain ⟨⟨a, _⟩, _, _, ⟨_, _, d3, d4, _⟩, _, ⟨fA, fB⟩, hr, hf⟩ := hI'
  obtain ⟨w, hcl, _⟩ := repl_WF (A := A) (d3.wkl a)
  have h20 := hf.1
  obtain ⟨M1, r1, r2, hcase⟩ := isHere_ok hm hI x3
  unfold X5_search_b5 X6_search
  rw [hf.2.1]
  rcases hcase with ⟨base, hb, rfl, hbt, e3, _, e4⟩ | ⟨_, e3, _, e4⟩
  · rw [e3, e4, bs, bs]
    try dsimp only
    unfold X6_search_b6
    rw [if_neg one0]
    rcases ix_3 x2 with ⟨u, hu, rfl, e1, e2⟩ | ⟨_, e1, e2⟩
    · rw [e1, e2, bs, bs, if_pos rfl, if_pos rfl, if_neg one0]
      have f14 : M1 0 14 = nI F := by rw [r2 0 (by omega)]; exact hf.2.2.1
      rcases ix_both x5 (n := F) (by omega) with ⟨x, hx, rfl, e5, e6⟩ | ⟨_, e5, e6⟩
      · rw [e5, (isFilter_ok f14 _).1 e6, bs, bs, if_pos rfl, if_neg one0]
        by_cases h6 : x6 < 0
        · have h6' : ¬ 0 ≤ x6 := by
            rw [Int32.lt_iff_toInt_lt] at h6
            rw [Int32.le_iff_toInt_le]
            omega
          rw [if_neg h6', if_pos h6, search_no1]
          exact same_err h r2.qm (by decide) (by decide)
        · have h6' : 0 ≤ x6 := by
            rw [Int32.lt_iff_toInt_lt] at h6
            rw [Int32.le_iff_toInt_le]
            omega
          rw [if_pos h6', if_neg h6]
          unfold X6_search_b37
          rw [if_neg one0]
          rcases arg_both x4 0 2 with ⟨u1, u2, e7, e8⟩ | ⟨e7, e8⟩
          · obtain ⟨sc, hsc, rfl⟩ := i_nat (hi := 2) (n := 2) rfl u1 u2
            rw [e7, e8, bs, bs, if_pos rfl, if_neg one0]
            obtain ⟨fk, fa, fb, gE, gM⟩ := hf.gen
            generalize hM2 : up M1 0 (upd (M1 0) 25 0) = M2
            have ff : ∀ k, k ≠ 0 → M2 k = M1 k := fun k hk => by rw [← hM2, up_n hk]
            have q2 : QM M M2 := by rw [← hM2]; exact r2.qm.trans (qm25 M1 0)
            have f25 : M2 0 25 = 0 := by rw [← hM2]; exact e25
            have rM : RM M2 (repl A lg L) := r1.fr (fun k p q => ff k (by omega))
            have hSF : SF S M2 (repl A lg L) N A F fk fa fb := by
              refine ⟨⟨d4.2.1, d4.2.2.1, d4.2.2.2.1, d4.2.2.2.2, fA, gE⟩, ⟨rM.1, rM.2.1, rM.2.2.1, rM.2.2.2.1, rM.2.2.2.2, fB.fr (q2.1 1 (by decide) (by decide)) (q2.1 2 (by decide) (by decide)), ?_⟩, ?_⟩
              · unfold FG
                rw [q2.1 14 (by decide) (by decide), q2.1 15 (by decide) (by decide), q2.1 16 (by decide) (by decide)]
                exact gM
              · unfold RR
                rw [q2.1 12 (by decide) (by decide), q2.1 13 (by decide) (by decide)]
                exact hr
            have hrf : ∀ k, k < 42 → S 26 k = M2 13 k := hSF.2.2.2
            have go : ∀ cur : Option Nat, (∀ c, cur = some c → inV (repl A lg L) base sc c) → SAME m (X5_search_b76 S (nI u) (nI base) (nI sc) (nI x) x6 0 (oI cur)) (X6_search_b96 M2 (nI u) (nI base) (nI sc) (nI x) x6 0 (oI cur)) := fun cur hcur => by
              obtain ⟨v, S', M', x1, x2, x3, x4⟩ := lockQ x6 hb (by omega) hu hx w hcl 42 0 cur S M2 0 (fun _ => 0) rfl (Nat.le_refl 0) hSF hcur (fun i hi => absurd hi (Nat.not_lt_zero i)) (fun i j _ hj => absurd hj (Nat.not_lt_zero j)) (fun i c hi => absurd hi (Nat.not_lt_zero i))
              refine ⟨0, v, S', v, M', x1, x2, IV.inv (hI.q x3 (q2.trans ⟨fun k p q => x4 k (by omega), fun j _ => by rw [x4 0 (by decide)]⟩)), by decide, ?_, fun _ => rfl⟩
              rw [x4 0 (by decide), f25]
              rfl
            unfold X6_search_b64 X6_search_b67
            rw [hM2, f25, if_pos (show (0 : Int32) ≤ 0 by decide)]
            by_cases h1 : sc = 1
            · subst h1
              have kE : X4_childAfter S (nI base) (-1) = some (oI (kidQ (repl A lg L) (S 26) base)) := childAfter_ok (o := none) hb (fun t q => nomatch q) w.2.1 w.2.2.2.1 d4.2.1 d4.2.2.1
              have kM : X6_goes M2 (nI base) (nI base) 1 = some (oI (kidQ (repl A lg L) (S 26) base)) := by
                unfold X6_goes X6_goes_b15 X6_goes_b25 X6_goes_L30
                rw [if_neg (by decide), if_pos rfl, if_pos rfl, show (-1 : Int32) = oI none from rfl, behind_ok (o := none) hb (fun t q => nomatch q) w.2.1 w.2.2.2.1 rM.1 rM.2.1 rM.2.2.1, bs, kidQ_congr hrf base]
                cases hk : kidQ (repl A lg L) (M2 13) base with
                | none =>
                  have hk' : mnA (okQ (repl A lg L) (M2 13) base none) (ordQ (repl A lg L)) 42 = none := hk
                  rw [hk']
                  exact climbM hb w.1 w.2.1 w.2.2.2.1 hcl rM.1 rM.2.1 rM.2.2.1 0 base 1000 hb hbt rfl (fun j hj => absurd hj (Nat.not_lt_zero j)) (by decide)
                | some s =>
                  have hk' : mnA (okQ (repl A lg L) (M2 13) base none) (ordQ (repl A lg L)) 42 = some s := hk
                  have hs42 := (kidQ_sp hk).1
                  rw [hk']
                  refine wl_inr (n := 999) ?_
                  show X6_goes_H30 M2 (nI base) (oI (some s)) (nI base) = some (.inr (oI (some s)))
                  unfold X6_goes_H30 X6_goes_b72
                  rw [if_pos (show 0 ≤ oI (some s) from nI_pos' (by omega))]
                  rfl
              rw [if_pos (show nI 1 = 1 from rfl), if_pos (show nI 1 = 1 from rfl), kE, kM, bs, bs]
              refine go _ (fun c hc => ?_)
              obtain ⟨k1, k2, k3, k4⟩ := kidQ_sp hc
              exact ⟨k2, k1, ⟨1, k4⟩, fun _ => ⟨k4, k3, ne_par w.1 w.2.1 w.2.2.1 hb k4 k3⟩⟩
            · have n1 : ¬ nI sc = 1 := fun q => h1 ((nI_eq (b := 1) (by omega) (by decide)).mp q)
              rw [if_neg n1, if_neg n1]
              refine go (some base) (fun c hc => ?_)
              rw [← Option.some.inj hc]
              exact ⟨hbt, hb, ⟨0, rfl⟩, fun q => absurd q h1⟩
          · rw [e7, e8, bs, bs, if_neg (by decide), if_pos rfl, show (2 : Int32) = nI 2 from rfl, search_no (by decide) (by decide)]
            exact same_err h r2.qm (by decide) (by decide)
      · rw [e5, (isFilter_ok f14 _).2 e6, bs, bs, if_neg (by decide), if_pos rfl, search_no1]
        exact same_err h r2.qm (by decide) (by decide)
    · rw [e1, e2, bs, bs, if_neg (by decide), if_pos rfl, search_no1]
      exact same_err h r2.qm (by decide) (by decide)
  · rw [e3, bs]
    try dsimp only
    unfold X6_search_b6
    rw [if_pos rfl, search_no1]
    rcases ix_3 x2 with ⟨u, hu, rfl, e1, _⟩ | ⟨_, e1, _⟩
    · rw [e1, bs, if_pos rfl, e4, bs, if_neg (by decide)]
      exact same_err h r2.qm (by decide) (by decide)
    · rw [e1, bs, if_neg (by decide)]
      exact same_err h r2.qm (by decide) (by decide)
