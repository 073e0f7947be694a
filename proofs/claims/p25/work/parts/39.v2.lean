/-! CLASS 2: a new change -/
theorem newc_ok {S S1 : St} {m n t : Nat} {lg : Nat → CH} {tm mk bt N A fk fa fb : Nat → Nat} {L L' : List Nat} {F : Nat} {rg rf : Nat → Int32} {c0 : CH} (hm : m < 2) (hn : n < 40) (hI : IC m S n lg tm mk bt N A L L' F fk fa fb rg rf) (ht : t = mxT bt tm m n + 1) (wc : WC n c0) (s1 : ∀ k, k < 14 ∨ 21 ≤ k → S1 k = S k) (s2 : S1 14 6 = nI (n + 1)) (s3 : ∀ k c, 15 ≤ k → k < 21 → c ≠ n → S1 k c = S k c) (s4 : LEj S1 n c0) (s5 : S1 16 n = nI (2 * t + m)) : ∃ S2, X4_learn S1 (nI n) = some S2 ∧ IC m S2 (n + 1) (fu lg n c0) (fu tm n t) (fu mk n m) (fu bt n (2 ^ m)) N A (L ++ [n]) L' F fk fa fb rg rf ∧ S2 0 10 = nI (cntF (tTh (stepC A (repl A lg L) c0)) 42) := by
  obtain ⟨⟨a, amk⟩, ⟨b1, b2⟩, ⟨d1, d2, d3, d4, d5⟩, e, f1, ⟨g1, g2⟩, h2, h4⟩ := hI
  have h40 := a.1
  have hmx := mxT_le (m := m) a n (Nat.le_refl n)
  have tb : ∀ q, q < 2 → ((2 ^ m).testBit q = true ↔ q = m) := fun q hq => by
    have x1 : m = 0 ∨ m = 1 := by omega
    have x2 : q = 0 ∨ q = 1 := by omega
    rcases x1 with rfl | rfl <;> rcases x2 with rfl | rfl <;> decide
  have hLn : ∀ d, d ∈ L → d < n := fun d hd => ((d3.2 d).mp hd).1
  have est : ∀ d, d ≠ n → stp (fu tm n t) (fu mk n m) d = stp tm mk d := fun d hd => by
    unfold stp
    rw [fu_n hd, fu_n hd]
  have estn : stp (fu tm n t) (fu mk n m) n = 2 * t + m := by
    unfold stp
    rw [fu_s, fu_s]
  have top : ∀ d, d ∈ L → stp (fu tm n t) (fu mk n m) d < stp (fu tm n t) (fu mk n m) n := fun d hd => by
    have hdn := (d3.2 d).mp hd
    have hge := mxT_ge (bt := bt) (tm := tm) (m := m) n d hdn.1 hdn.2
    have hb := a.2.1 d hdn.1
    rw [est d (by omega), estn]
    unfold stp
    omega
  have pos := posL_top L top
  have ins := insL_end (st := stp (fu tm n t) (fu mk n m)) (c := n) L pos
  have so1 : SO (stp (fu tm n t) (fu mk n m)) L := d3.1.congr (fun d hd => est d (by have := hLn d hd; omega))
  have so2 : SO (stp (fu tm n t) (fu mk n m)) (insL (stp (fu tm n t) (fu mk n m)) n L) := insL_SO L so1 (fun d hd q => by have := top d hd; omega)
  have hW : LOGW (n + 1) (fu lg n c0) (fu tm n t) (fu mk n m) (fu bt n (2 ^ m)) := by
    refine ⟨by omega, fun c hc => ?_, ?_⟩
    · by_cases h : c = n
      · rw [h, fu_s, fu_s, fu_s, fu_s]
        refine ⟨wc, by omega, hm, ?_⟩
        have x1 : m = 0 ∨ m = 1 := by omega
        rcases x1 with rfl | rfl <;> decide
      · rw [fu_n h, fu_n h, fu_n h, fu_n h]
        exact a.2.1 c (by omega)
    · have one : ∀ d, d < n → ¬ 2 * tm d + mk d = 2 * t + m := fun d hd q => by
        have hb := a.2.1 d hd
        have hmd : mk d = m := by omega
        have hk := amk d hd
        rw [hmd] at hk
        have := mxT_ge (bt := bt) (tm := tm) (m := m) n d hd hk
        omega
      intro c d hc hd q
      by_cases h : c = n
      · by_cases h' : d = n
        · rw [h, h']
        · rw [h, fu_s, fu_s, fu_n h', fu_n h'] at q
          exact absurd q.symm (one d (by omega))
      · by_cases h' : d = n
        · rw [h', fu_s, fu_s, fu_n h, fu_n h] at q
          exact absurd q (one c (by omega))
        · rw [fu_n h, fu_n h, fu_n h', fu_n h'] at q
          exact a.2.2 c d (by omega) (by omega) q
  have hlgL : ∀ K : List Nat, (∀ d, d ∈ K → d < n) → repl A (fu lg n c0) K = repl A lg K := fun K hK => repl_congr (fun d hd => fu_n (by have := hK d hd; omega))
  have hLE : ∀ c, c < n + 1 → LEj S1 c (fu lg n c0 c) ∧ S1 16 c = nI (stp (fu tm n t) (fu mk n m) c) := fun c hc => by
    by_cases h : c = n
    · rw [h, fu_s, estn]
      exact ⟨s4, s5⟩
    · rw [fu_n h, est c h, s3 16 c (by decide) (by decide) h]
      refine ⟨?_, (b2 c (by omega)).2⟩
      have q := (b2 c (by omega)).1
      unfold LEj at q ⊢
      rw [s3 15 c (by decide) (by decide) h, s3 17 c (by decide) (by decide) h, s3 18 c (by decide) (by decide) h, s3 19 c (by decide) (by decide) h, s3 20 c (by decide) (by decide) h]
      exact q
  have T1 : TR S1 m n lg bt (stp tm mk) A L := TR.fr (S := S) ⟨d1, d2, d3, d4, d5⟩ (fun k hk => s1 k (by omega))
  obtain ⟨p1, p2, p3, p4, p5⟩ := T1
  have hlen := d3.len h40
  have hlen2 : L.length < 40 := by
    have hk2 : KN (n + 1) (fu bt n (2 ^ m)) m (stp (fu tm n t) (fu mk n m)) (insL (stp (fu tm n t) (fu mk n m)) n L) := ⟨so2, fun c => by
      rw [insL_mem, d3.2 c]
      by_cases h : c = n
      · rw [h, fu_s]
        exact ⟨fun _ => ⟨by omega, (tb m hm).mpr rfl⟩, fun _ => .inl rfl⟩
      · rw [fu_n h]
        exact ⟨fun q => q.elim (fun z => absurd z h) (fun z => ⟨by omega, z.2⟩), fun q => .inr ⟨by omega, q.2⟩⟩⟩
    have := hk2.len (by omega)
    rw [insL_len] at this
    omega
  have bnd : ∀ d, d = n ∨ d ∈ L → d < n + 1 := fun d hd => hd.elim (fun q => by omega) (fun q => by have := hLn d q; omega)
  obtain ⟨S2, r0, r1, r2, r3, r4, r5⟩ := learn_ok (S := S1) (st := stp (fu tm n t) (fu mk n m)) (c := n) (n := n + 1) (lg := fu lg n c0) (N := N) (A := A) p2 hlen2 (fun d hd => ⟨by have := bnd d hd; omega, (hLE d (bnd d hd)).2, by
      have q := hW.2.1 d (bnd d hd)
      have := bnd d hd
      unfold stp
      omega⟩) so2 so1 (fun d hd => ⟨(hLE d (bnd d hd)).1, bnd d hd, (hW.2.1 d (bnd d hd)).1⟩) (f1.fr (s1 22 (by omega)) (s1 23 (by omega))) (by rw [hlgL L hLn]; exact p4) (by rw [hlgL L hLn]; exact p5)
  rw [ins] at r1 r2 r3 so2
  refine ⟨S2, r0, ⟨⟨hW, fun c hc => ?_⟩, ⟨by rw [r4 14 (by decide)]; exact s2, fun c hc => ⟨(hLE c hc).1.fr (fun k hk => r4 k hk), by rw [r4 16 (by decide)]; exact (hLE c hc).2⟩⟩, ⟨?_, r1, ⟨so2, fun c => ?_⟩, r2, r3⟩, ?_, (f1.fr (s1 22 (by omega)) (s1 23 (by omega))).fr (r4 22 (by decide)) (r4 23 (by decide)), ⟨?_, ?_⟩, ?_, ?_⟩, ?_⟩
  · by_cases h : c = n
    · rw [h, fu_s, fu_s]
      exact (tb m hm).mpr rfl
    · rw [fu_n h, fu_n h]
      exact amk c (by omega)
  · rw [r5 0 (by decide) (by decide)]; exact p1
  · rw [List.mem_append, List.mem_singleton, d3.2 c]
    by_cases h : c = n
    · rw [h, fu_s]
      exact ⟨fun _ => ⟨by omega, (tb m hm).mpr rfl⟩, fun _ => .inr rfl⟩
    · rw [fu_n h]
      exact ⟨fun q => q.elim (fun z => ⟨by omega, z.2⟩) (fun z => absurd z h), fun q => .inl ⟨by omega, q.2⟩⟩
  · have e' : TR (swS S2) (1 - m) n lg bt (stp tm mk) A L' := e.fr (fun k hk => by
      show S2 (sw k) = S (sw k)
      rw [sw_lo hk, r4 _ (by omega), s1 _ (by omega)])
    obtain ⟨q1, q2, q3, q4, q5⟩ := e'
    have hLn' : ∀ d, d ∈ L' → d < n := fun d hd => ((q3.2 d).mp hd).1
    refine ⟨q1, q2, ⟨q3.1.congr (fun d hd => est d (by have := hLn' d hd; omega)), fun c => ?_⟩, by rw [hlgL L' hLn']; exact q4, by rw [hlgL L' hLn']; exact q5⟩
    rw [q3.2 c]
    by_cases h : c = n
    · rw [h, fu_s]
      refine ⟨fun q => absurd q.1 (Nat.lt_irrefl n), fun q => ?_⟩
      have := (tb (1 - m) (by omega)).mp q.2
      omega
    · rw [fu_n h]
      exact ⟨fun q => ⟨by omega, q.2⟩, fun q => ⟨by omega, q.2⟩⟩
  · rw [r4 25 (by decide), s1 25 (by omega)]; exact g1
  · rw [r4 26 (by decide), s1 26 (by omega)]; exact g2
  · rw [r4 27 (by decide), s1 27 (by omega)]; exact h2
  · unfold FG
    rw [r4 28 (by decide), r4 29 (by decide), r4 30 (by decide), s1 28 (by omega), s1 29 (by omega), s1 30 (by omega)]; exact h4
  · rw [repl_snoc, hlgL L hLn, fu_s] at r3
    exact r3
