/-! PURE 15: carry, the small calls -/
theorem bor1 : ∀ b, b < 4 → ∀ m, m < 2 → nI b ||| nI (2 ^ m) = nI (b ||| 2 ^ m) := by decide
theorem bor2 : ∀ b, b < 4 → ∀ m, m < 2 → b ||| 2 ^ m < 4 := by decide
theorem bor3 : ∀ b, b < 4 → ∀ m, m < 2 → ∀ q, q < 2 → (b ||| 2 ^ m).testBit q = (b.testBit q || decide (q = m)) := by decide
theorem carry_ok {S M : St} {m n c : Nat} {lg : Nat → CH} {tm mk bt N A : Nat → Nat} {L L' : List Nat} {F : Nat} (hm : m < 2) (hI : IV m S M n lg tm mk bt N A L L' F) (hc : c < n) : ∃ w S' M', X5_carry_b16 S (nI c) = some (0, w, S') ∧ X6_carry M (nI c) (nI m) = some (w, M') ∧ INV m S' M' ∧ M' 0 25 = nI 0 := by
  obtain ⟨⟨a, amk⟩, ⟨b1, b2⟩, ⟨c1, c2⟩, ⟨d1, d2, d3, d4, d5⟩, e, ⟨f1, f2⟩, ⟨g1, g2⟩, ⟨h1, h2, h3, h4⟩⟩ := hI
  have h40 := a.1
  have hbc := a.2.1 c hc
  have hb4 := hbc.2.2.2
  have hlen := d3.len h40
  have hW : LOGW n lg tm mk (fu bt c (bt c ||| 2 ^ m)) := ⟨h40, fun d hd => by
    by_cases h : d = c
    · rw [h, fu_s]
      exact ⟨hbc.1, hbc.2.1, hbc.2.2.1, bor2 _ hb4 m hm⟩
    · rw [fu_n h]
      exact a.2.1 d hd, a.2.2⟩
  have hMK : MKB n mk (fu bt c (bt c ||| 2 ^ m)) := fun d hd => by
    by_cases h : d = c
    · rw [h, fu_s, bor3 _ hb4 m hm _ hbc.2.2.1, amk c hc, Bool.true_or]
    · rw [fu_n h]
      exact amk d hd
  have key : ∃ fl : Bool, fl = decide (c ∈ L) ∧ X6_carry M (nI c) (nI m) = some (bI (!fl), up (up M 0 (upd (M 0) 25 0)) 11 (upd (M 11) c (nI (bt c ||| 2 ^ m)))) := by
    refine ⟨decide (c ∈ L), rfl, ?_⟩
    unfold X6_carry X6_isChange
    rcases ix_both (nI c) (n := n) (by omega) with ⟨_, _, _, _, e1⟩ | ⟨q, _⟩
    · rw [c1, e1, bs, if_pos (by decide), bs, if_neg (by decide), mst_ok hm, bs, if_neg (by decide)]
      unfold X6_carry_b21 X6_carry_b24
      rw [e25, if_pos (by decide), knowsM_ok (M := up M 0 (upd (M 0) 25 0)) (b := bt c) (by omega) (by rw [up_n (by decide)]; exact (c2 c hc).2.2.2) hb4 hm, bs]
      unfold X6_carry_b47 X6_carry_b60
      have hin : decide (c ∈ L) = (bt c).testBit m := by
        cases hb : (bt c).testBit m
        · exact decide_eq_false (fun z => by rw [((d3.2 c).mp z).2] at hb; exact absurd hb (by decide))
        · exact decide_eq_true ((d3.2 c).mpr ⟨hc, hb⟩)
      rw [hin, if_pos (in40 (by omega)), if_pos (in40 (by omega)), if_pos (in40 (by omega)), if_pos (in40 (by omega)), clN (by omega), up_n (show (11 : Nat) ≠ 0 by decide), (c2 c hc).2.2.2, shl1 hm, bor1 _ hb4 m hm]
      cases (bt c).testBit m
      · rw [if_pos bit0, if_pos (by decide)]
        rfl
      · rw [if_neg bit1, if_pos (by decide)]
        rfl
    · exact absurd rfl (q c hc)
  obtain ⟨fl, hfl, hM⟩ := key
  generalize hV : up (up M 0 (upd (M 0) 25 0)) 11 (upd (M 11) c (nI (bt c ||| 2 ^ m))) = V at hM
  have v0 : V 0 = upd (M 0) 25 0 := by rw [← hV, up_n (by decide), up_s]
  have v11 : V 11 = upd (M 11) c (nI (bt c ||| 2 ^ m)) := by rw [← hV, up_s]
  have vf : ∀ k, k ≠ 0 → k ≠ 11 → V k = M k := fun k x y => by rw [← hV, up_n y, up_n x]
  have hLM : LOGM V n lg tm mk (fu bt c (bt c ||| 2 ^ m)) := by
    refine ⟨by rw [v0, upd_n (by decide)]; exact c1, fun d hd => ?_⟩
    have q := (c2 d hd).1
    refine ⟨?_, by rw [vf 9 (by decide) (by decide)]; exact (c2 d hd).2.1, by rw [vf 10 (by decide) (by decide)]; exact (c2 d hd).2.2.1, ?_⟩
    · unfold LMj at q ⊢
      rw [vf 3 (by decide) (by decide), vf 4 (by decide) (by decide), vf 5 (by decide) (by decide), vf 6 (by decide) (by decide), vf 7 (by decide) (by decide), vf 8 (by decide) (by decide)]
      exact q
    · rw [v11]
      by_cases h : d = c
      · rw [h, upd_s, fu_s]
      · rw [upd_n h, fu_n h]
        exact (c2 d hd).2.2.2
  have vend : V 0 25 = nI 0 := by rw [v0, upd_s]; rfl
  have kn2 : ∀ K, SO (stp tm mk) K → (∀ d, d ∈ K ↔ d = c ∨ d ∈ L) → KN n (fu bt c (bt c ||| 2 ^ m)) m (stp tm mk) K := fun K so hK => ⟨so, fun d => by
    rw [hK d, d3.2 d]
    by_cases h : d = c
    · rw [h, fu_s, bor3 _ hb4 m hm m hm, decide_eq_true rfl, Bool.or_true]
      exact ⟨fun _ => ⟨hc, rfl⟩, fun _ => .inl rfl⟩
    · rw [fu_n h]
      exact ⟨fun q => q.elim (fun z => absurd z h) id, fun q => .inr q⟩⟩
  have kn3 : KN n (fu bt c (bt c ||| 2 ^ m)) (1 - m) (stp tm mk) L' := ⟨e.2.2.1.1, fun d => by
    rw [e.2.2.1.2 d]
    by_cases h : d = c
    · rw [h, fu_s, bor3 _ hb4 m hm (1 - m) (by omega), decide_eq_false (show ¬ 1 - m = m by omega), Bool.or_false]
    · rw [fu_n h]⟩
  have fin : ∀ S' K, SO (stp tm mk) K → (∀ d, d ∈ K ↔ d = c ∨ d ∈ L) → KE S' K → RE S' (repl A lg K) → RC S' (repl A lg K) → (∀ k, 7 ≤ k → S' k = S k) → S' 0 0 = S 0 0 → INV m S' V := fun S' K so hK k1 k2 k3 k4 k5 => by
    refine ⟨n, lg, tm, mk, fu bt c (bt c ||| 2 ^ m), N, A, K, L', F, ⟨hW, hMK⟩, ⟨by rw [k4 14 (by decide)]; exact b1, fun d hd => ⟨(b2 d hd).1.fr k4, by rw [k4 16 (by decide)]; exact (b2 d hd).2⟩⟩, hLM, ⟨by rw [k5]; exact d1, k1, kn2 K so hK, k2, k3⟩, ?_, ⟨f1.fr (k4 22 (by decide)) (k4 23 (by decide)), f2.fr (vf 1 (by decide) (by decide)) (vf 2 (by decide) (by decide))⟩, ⟨?_, ?_⟩, ⟨h1, ?_, ?_, ?_⟩⟩
    · have e' : TR (swS S') (1 - m) n lg bt (stp tm mk) A L' := e.fr (fun k hk => by
        show S' (sw k) = S (sw k)
        rw [sw_lo hk]
        exact k4 _ (by omega))
      exact ⟨e'.1, e'.2.1, kn3, e'.2.2.2⟩
    · rw [k4 25 (by decide), vf 12 (by decide) (by decide)]; exact g1
    · rw [k4 26 (by decide), vf 13 (by decide) (by decide)]; exact g2
    · rw [k4 27 (by decide)]; exact h2
    · rw [v0, upd_n (by decide)]; exact h3
    · rw [k4 28 (by decide), k4 29 (by decide), k4 30 (by decide), vf 14 (by decide) (by decide), vf 15 (by decide) (by decide), vf 16 (by decide) (by decide)]; exact h4
  unfold X5_carry_b16 X5_carry_b32
  rw [knows_ok d2 hlen (by omega) (fun d hd => by have := ((d3.2 d).mp hd).1; omega), bs, ← hfl]
  cases hf : fl
  · rw [hf] at hfl hM
    have hn : c ∉ L := of_decide_eq_false hfl.symm
    have hne : ∀ d, d ∈ L → stp tm mk d ≠ stp tm mk c := fun d hd q => hn (by
      have := a.2.2 d c ((d3.2 d).mp hd).1 hc q
      rw [← this]
      exact hd)
    have so2 := insL_SO L d3.1 hne
    have hK := kn2 _ so2 (fun d => insL_mem (stp tm mk) c d L)
    have hl2 := hK.len h40
    rw [insL_len] at hl2
    have bnd : ∀ d, d = c ∨ d ∈ L → d < n := fun d hd => hd.elim (fun q => by omega) (fun q => ((d3.2 d).mp q).1)
    obtain ⟨S2, r0, r1, r2, r3, r4, r5⟩ := learn_ok (S := S) (st := stp tm mk) (c := c) (n := n) (lg := lg) (N := N) (A := A) d2 (by omega) (fun d hd => ⟨by have := bnd d hd; omega, (b2 d (bnd d hd)).2, by
      have q := a.2.1 d (bnd d hd)
      have := bnd d hd
      unfold stp
      omega⟩) so2 d3.1 (fun d hd => ⟨(b2 d (bnd d hd)).1, bnd d hd, (a.2.1 d (bnd d hd)).1⟩) f1 d4 d5
    rw [if_pos bit0, r0, bs]
    exact ⟨1, S2, V, rfl, hM, fin S2 _ so2 (fun d => insL_mem (stp tm mk) c d L) r1 r2 r3 r4 (r5 0 (by decide) (by decide)), vend⟩
  · rw [hf] at hfl hM
    have hin : c ∈ L := of_decide_eq_true hfl.symm
    rw [if_neg bit1]
    exact ⟨0, S, V, rfl, hM, fin S L d3.1 (fun d => ⟨.inr, fun q => q.elim (fun z => by rw [z]; exact hin) id⟩) d2 d4 d5 (fun _ _ => rfl) rfl, vend⟩
theorem api_changes {m : Nat} {S M : St} (h : INV m S M) : ∃ v M', X5_changes S = some v ∧ X6_changes M = some (v, M') ∧ INV m S M' ∧ M' 0 25 = nI 0 := by
  have hh := h
  obtain ⟨n, lg, tm, mk, bt, N, A, L, L', F, hI⟩ := hh
  refine ⟨S 14 6, up M 0 (upd (M 0) 25 0), rfl, ?_, h.qm (qm25 M 0), e25⟩
  unfold X6_changes X6_changes_b5
  rw [up_s, upd_n (by decide), hI.2.1.1, hI.2.2.1.1]
theorem api_timeOf {m : Nat} {S M : St} (h : INV m S M) (x1 : Int32) : SAMQ m S (X5_timeOf S x1) (X6_timeOf M x1) := by
  have hh := h
  obtain ⟨n, lg, tm, mk, bt, N, A, L, L', F, hI⟩ := hh
  obtain ⟨⟨a, _⟩, ⟨b1, b2⟩, ⟨c1, c2⟩, _⟩ := hI
  have h40 := a.1
  unfold X5_timeOf X6_timeOf X6_isChange
  rw [b1, c1]
  rcases ix_both x1 (n := n) (by omega) with ⟨c, hc, rfl, e1, e2⟩ | ⟨_, e1, e2⟩
  · rw [e1, e2, bs, bs, if_pos rfl, if_pos (by decide), bs, if_neg (by decide)]
    unfold X2_timeAt X6_timeOf_b14 X6_timeOf_b17 X6_timeOf_b34
    have hb := a.2.1 c hc
    rw [at_in (by omega) (by decide), bs, bs, (b2 c hc).2, e25, if_pos (by decide), if_pos (in40 (by omega)), clN (by omega), show (2 : Int32) = nI 2 from rfl, pk_div (by unfold stp; omega) (by decide) (by decide), show stp tm mk c / 2 = tm c by unfold stp; omega]
    refine samq_ok h (QM.rfl' M) ?_
    rw [up_n (by decide), (c2 c hc).2.1]
  · rw [e1, e2, bs, bs, if_neg (by decide), if_pos (by decide), bs, if_pos rfl]
    unfold X6_timeOf_b14 X6_timeOf_b17 X6_timeOf_b34
    rw [up_s, upd_s, if_neg (by decide)]
    exact samq_err (k := 1) h (QM.rfl' M) (by decide) (by decide)
theorem alike_tr {a b l : Option Nat} (h1 : alike a l = true) (h2 : alike b l = true) : alike a b = true := by
  cases a with
  | none => exact absurd h1 (by rw [alike_nl]; decide)
  | some i =>
    cases b with
    | none => exact absurd h2 (by rw [alike_nl]; decide)
    | some j =>
      cases l with
      | none => exact absurd h1 (by rw [alike_nr]; decide)
      | some k =>
        have e1 : i % 50 = k % 50 := beq_iff_eq.mp h1
        have e2 : j % 50 = k % 50 := beq_iff_eq.mp h2
        exact beq_iff_eq.mpr (e1.trans e2.symm)
theorem hit_one {T : AT} {p : Nat} {l : Option Nat} {e : Int32} {y z : Nat} (w6 : W6 T) (hy : y < 42) (hz : z < 42) (h1 : hit T p l e y = true) (h2 : hit T p l e z = true) : y = z := by
  obtain ⟨a1, a2, a3, _, a5⟩ := hit_t.mp h1
  obtain ⟨b1, b2, b3, _, b5⟩ := hit_t.mp h2
  by_cases h : y = z
  · exact h
  · have := w6 y z hy hz h a2 b2 a1 b1 (a3.trans b3.symm)
    rw [alike_tr a5 b5] at this
    exact absurd this (by decide)
theorem api_find {m : Nat} {S M : St} (hm : m < 2) (h : INV m S M) (x2 x3 : Int32) : SAMQ m S (X5_find_b5 S x2 x3) (X6_find M (nI m) x2 x3) := by
  have hh := h
  obtain ⟨n, lg, tm, mk, bt, N, A, L, L', F, hI⟩ := hh
  obtain ⟨M1, r1, r2, hcase⟩ := isHere_ok hm hI x2
  obtain ⟨⟨a, _⟩, _, _, ⟨_, _, d3, d4, _⟩, _⟩ := hI
  obtain ⟨w, _, _⟩ := repl_WF (A := A) (d3.wkl a)
  unfold X5_find_b5 X6_find
  rcases hcase with ⟨p, hp, rfl, hpt, e1, _, e2⟩ | ⟨_, e1, _, e2⟩
  · rw [e1, e2, bs, bs, if_pos rfl]
    try dsimp only
    unfold X6_find_b7
    rw [if_neg (by decide)]
    rcases arg_both x3 0 99 with ⟨u1, u2, e5, e6⟩ | ⟨e5, e6⟩
    · obtain ⟨l, hl, rfl⟩ := i_nat (hi := 99) (n := 99) rfl u1 u2
      rw [e5, e6, bs, bs, if_pos rfl, if_neg (by decide)]
      unfold X6_find_b29 X6_find_b32 X6_find_b50
      rw [e25, if_pos (by decide), show nI l = oI (some l) from rfl]
      rcases cwl_ok (l := some l) (e := -1) hp d4.2.1 d4.2.2.1 w.2.1 w.2.2.2.1 (w3_of (x := 0) hl) with ⟨z, hz, hzh, e9⟩ | ⟨hno, e9⟩
      · rcases finds_ok (S := up M1 0 (upd (M1 0) 25 0)) (T := repl A lg L) (l := some l) (e := -1) hp (fun k hk => r1.1 k hk) (fun k hk a b => r1.2.1 k hk a b) (fun k hk => r1.2.2.1 k hk) w.2.1 w.2.2.2.1 (w3_of (x := 0) hl) with ⟨y, hy, hyh, e10⟩ | ⟨hno, _⟩
        · rw [e9, e10, bs, bs]
          exact samq_ok h r2.qm (by rw [hit_one w.2.2.2.2.2.2 hz hy hzh hyh])
        · rw [hno z hz] at hzh
          exact absurd hzh (by decide)
      · rcases finds_ok (S := up M1 0 (upd (M1 0) 25 0)) (T := repl A lg L) (l := some l) (e := -1) hp (fun k hk => r1.1 k hk) (fun k hk a b => r1.2.1 k hk a b) (fun k hk => r1.2.2.1 k hk) w.2.1 w.2.2.2.1 (w3_of (x := 0) hl) with ⟨y, hy, hyh, _⟩ | ⟨_, e10⟩
        · rw [hno y hy] at hyh
          exact absurd hyh (by decide)
        · rw [e9, e10, bs, bs]
          exact samq_ok h r2.qm rfl
    · rw [e5, e6, bs, bs, if_neg (by decide), if_pos rfl]
      unfold X6_find_b29 X6_find_b32 X6_find_b50
      rw [up_s, upd_s, if_neg (by decide)]
      exact samq_err (k := 2) h r2.qm (by decide) (by decide)
  · rw [e1, e2, bs, bs, if_neg (by decide)]
    try dsimp only
    unfold X6_find_b7
    rw [if_pos rfl]
    unfold X6_find_b29 X6_find_b32 X6_find_b50
    rw [up_s, upd_s, if_neg (by decide)]
    exact samq_err (k := 1) h r2.qm (by decide) (by decide)
