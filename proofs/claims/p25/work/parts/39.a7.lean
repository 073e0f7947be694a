/-! PURE 7: replay; what the class knows -/
def T0 : AT := (fun k => decide (k < 2), fun _ => 0, fun k => if k = 1 then some 99 else none, fun _ => 0, fun _ => none)
theorem T0_WF : WF T0 ∧ CLO T0 none := by
  refine ⟨⟨⟨rfl, rfl, rfl, rfl, rfl⟩, fun v _ => ?_, fun v _ => ⟨1, rfl⟩, fun v k h => ?_, fun v => ?_, fun v k h => ?_, ?_⟩, fun v _ _ => .inl rfl⟩
  · show 0 < 42
    omega
  · have h' : (if v = 1 then some 99 else none) = some k := h
    split at h'
    · rw [← Option.some.inj h']; omega
    · exact nomatch h'
  · show 0 < 3
    omega
  · exact nomatch h
  · intro u v _ _ h hu hv a b _
    have a' : u < 2 := of_decide_eq_true a
    have b' : v < 2 := of_decide_eq_true b
    omega
def repl (A : Nat → Nat) (lg : Nat → CH) (L : List Nat) : AT := L.foldl (fun T c => stepC A T (lg c)) T0
theorem repl_snoc (A : Nat → Nat) (lg : Nat → CH) (L : List Nat) (c : Nat) : repl A lg (L ++ [c]) = stepC A (repl A lg L) (lg c) := by
  unfold repl
  rw [List.foldl_append]
  rfl
theorem tTh_fr {x : Nat} {T : AT} : ∀ j, tTh (fr (rehang x) T j) = tTh T := by
  intro j
  induction j with
  | zero => rfl
  | succ j ih =>
    show tTh (rehang x j (fr (rehang x) T j)) = tTh T
    rw [← ih]
    unfold rehang
    split <;> rfl
theorem tTh_step {A : Nat → Nat} {T : AT} {c : CH} {y : Nat} (h : tTh (stepC A T c) y = true) : tTh T y = true ∨ (cK c = 0 ∧ y = cX c) := by
  unfold stepC at h
  by_cases h0 : cK c = 0
  · rw [if_pos h0] at h
    have h' : fu (tTh T) (cX c) true y = true := h
    by_cases hy : y = cX c
    · exact .inr ⟨h0, hy⟩
    · rw [fu_n hy] at h'
      exact .inl h'
  · rw [if_neg h0] at h
    left
    by_cases h1 : cK c = 1
    · rw [if_pos h1] at h
      unfold stepS at h
      split at h <;> exact h
    · rw [if_neg h1] at h
      by_cases h2 : cK c = 2
      · rw [if_pos h2] at h
        unfold stepM at h
        split at h <;> exact h
      · rw [if_neg h2] at h
        unfold stepD at h
        split at h
        · rw [tTh_fr] at h
          have h' : fu (tTh T) (cX c) false y = true := h
          by_cases hy : y = cX c
          · rw [hy, fu_s] at h'
            exact absurd h' (by decide)
          · rw [fu_n hy] at h'
            exact h'
        · exact h
/-- lists without a change twice, all well made -/
def WKL (n : Nat) (lg : Nat → CH) (L : List Nat) : Prop := L.Nodup ∧ ∀ c, c ∈ L → c < n ∧ WC c (lg c)
theorem WKL.pre {n : Nat} {lg : Nat → CH} {L1 L2 : List Nat} (h : WKL n lg (L1 ++ L2)) : WKL n lg L1 := ⟨(List.nodup_append.mp h.1).1, fun c hc => h.2 c (List.mem_append.mpr (.inl hc))⟩
theorem repl_ok {A : Nat → Nat} {n : Nat} {lg : Nat → CH} (K : List Nat) : ∀ L : List Nat, L = K.reverse → WKL n lg L → WF (repl A lg L) ∧ CLO (repl A lg L) none ∧ ∀ y, 2 ≤ y → tTh (repl A lg L) y = true → y - 2 ∈ L := by
  induction K with
  | nil => intro L hL _; rw [hL]; exact ⟨T0_WF.1, T0_WF.2, fun y hy h => absurd (of_decide_eq_true (p := y < 2) h) (by omega)⟩
  | cons c K ih =>
    intro L hL w
    rw [List.reverse_cons] at hL
    subst hL
    obtain ⟨i1, i2, i3⟩ := ih _ rfl w.pre
    have hc := w.2 c (List.mem_append.mpr (.inr (List.mem_singleton.mpr rfl)))
    have hn : c ∉ K.reverse := fun q => (List.nodup_append.mp w.1).2.2 c q c (List.mem_singleton.mpr rfl) rfl
    rw [repl_snoc]
    have hf : cK (lg c) = 0 → tTh (repl A lg K.reverse) (cX (lg c)) = false := fun h0 => by
      cases hb : tTh (repl A lg K.reverse) (cX (lg c))
      · rfl
      · have hx := (hc.2.2.2.2.2.1 h0).1
        rw [hx] at hb
        exact absurd (i3 (c + 2) (by omega) hb) hn
    refine ⟨(stepC_WF hc.2 i1 i2 hf).1, (stepC_WF hc.2 i1 i2 hf).2, fun y hy h => ?_⟩
    rcases tTh_step h with q | ⟨h0, q⟩
    · exact List.mem_append.mpr (.inl (i3 y hy q))
    · have hx := (hc.2.2.2.2.2.1 h0).1
      refine List.mem_append.mpr (.inr (List.mem_singleton.mpr ?_))
      omega
theorem repl_WF {A : Nat → Nat} {n : Nat} {lg : Nat → CH} {L : List Nat} (w : WKL n lg L) : WF (repl A lg L) ∧ CLO (repl A lg L) none ∧ ∀ y, 2 ≤ y → tTh (repl A lg L) y = true → y - 2 ∈ L := repl_ok L.reverse L (List.reverse_reverse L).symm w
theorem repl_fresh {A : Nat → Nat} {n : Nat} {lg : Nat → CH} {L : List Nat} {c : Nat} (w : WKL n lg L) (wc : WC c (lg c)) (hn : c ∉ L) (h0 : cK (lg c) = 0) : tTh (repl A lg L) (cX (lg c)) = false := by
  cases hb : tTh (repl A lg L) (cX (lg c))
  · rfl
  · have hx := (wc.2.2.2.2.1 h0).1
    rw [hx] at hb
    exact absurd ((repl_WF w).2.2 (c + 2) (by omega) hb) hn
/-- fill, clear -/
theorem fill_ok {N : Nat} {f : Nat → Int32} {v : Int32} (hN : N < 1000) : ∃ g, J7_fill_53178 N f v = some g ∧ ∀ i, i < N → g i = v := by
  unfold J7_fill_53178 J7_fill_53178_L5
  refine wl_inv (f := fun a' : ((Nat → Int32) × Int32 × Int32 × Int32) => J7_fill_53178_H5 N a'.1 a'.2.1 a'.2.2.1 a'.2.2.2) (N := N) (Q := fun g => ∀ i, i < N → g i = v) (fun j a => ∃ g, a = (g, v, nI j, nI N) ∧ ∀ i, i < j → g i = v) hN ?_ ?_ ⟨f, rfl, fun i hi => absurd hi (Nat.not_lt_zero i)⟩
  · rintro j a hj ⟨g, rfl, hg⟩
    show ∃ a', J7_fill_53178_H5 N g v (nI j) (nI N) = some (.inl a') ∧ _
    unfold J7_fill_53178_H5 J7_fill_53178_b14
    rw [if_neg (nI_ge hj (by omega)), if_pos (inB_nI hj (by omega)), nI_clamp (by omega), nI_succ]
    refine ⟨_, rfl, _, rfl, fun i hi => ?_⟩
    by_cases h : i = j
    · rw [h, upd_s]
    · rw [upd_n h]; exact hg i (by omega)
  · rintro a ⟨g, rfl, hg⟩
    show ∃ r, J7_fill_53178_H5 N g v (nI N) (nI N) = some (.inr r) ∧ _
    unfold J7_fill_53178_H5 J7_fill_53178_b20
    rw [if_pos (nI_le (Nat.le_refl N) (by omega))]
    exact ⟨g, rfl, hg⟩
theorem clear_ok (S : St) : ∃ S', X4_clear S = some S' ∧ RE S' T0 ∧ RC S' T0 ∧ FE S S' := by
  unfold X4_clear X4_clear_L2
  refine wl_inv (f := fun a' : (St × Int32) => X4_clear_H2 a'.1 a'.2) (N := 42) (Q := fun S' => RE S' T0 ∧ RC S' T0 ∧ FE S S') (fun j a => ∃ U, a = (U, nI j) ∧ (∀ k, k ≠ 2 → U k = S k) ∧ ∀ i, i < j → U 2 i = bI (decide (i < 2))) (by decide) ?_ ?_ ⟨S, rfl, fun _ _ => rfl, fun i hi => absurd hi (Nat.not_lt_zero i)⟩
  · rintro j a hj ⟨U, rfl, hf, hg⟩
    show ∃ a', X4_clear_H2 U (nI j) = some (.inl a') ∧ _
    unfold X4_clear_H2 X4_clear_b23 X4_clear_b24
    rw [if_neg (ge42 hj)]
    by_cases h2 : 2 ≤ j
    · rw [if_pos (show (2 : Int32) ≤ nI j from nI_le (a := 2) h2 (by omega)), if_pos (in42 hj), cl42 hj, nI_succ, nar0]
      refine ⟨_, rfl, _, rfl, fun k hk => (up_n hk).trans (hf k hk), fun i hi => ?_⟩
      rw [up_s]
      by_cases h : i = j
      · rw [h, upd_s, decide_eq_false (by omega)]; rfl
      · rw [upd_n h]; exact hg i (by omega)
    · rw [if_neg (show ¬ (2 : Int32) ≤ nI j from nI_ge (b := 2) (by omega) (by decide)), if_pos (in42 hj), cl42 hj, nI_succ, nar1]
      refine ⟨_, rfl, _, rfl, fun k hk => (up_n hk).trans (hf k hk), fun i hi => ?_⟩
      rw [up_s]
      by_cases h : i = j
      · rw [h, upd_s, decide_eq_true (show j < 2 by omega)]; rfl
      · rw [upd_n h]; exact hg i (by omega)
  · rintro a ⟨U, rfl, hf, hg⟩
    show ∃ r, X4_clear_H2 U (nI 42) = some (.inr r) ∧ _
    unfold X4_clear_H2 X4_clear_b30 X4_clear_b38 X4_clear_b46 X4_clear_b54 X4_clear_b62 X4_clear_b69 X4_clear_b77 X4_clear_b82
    rw [if_pos le42]
    obtain ⟨g3, e3, p3⟩ := fill_ok (N := 42) (f := U 3) (v := -1) (by decide)
    rw [e3, bs]
    generalize hU3 : up U 3 g3 = U3
    obtain ⟨g4, e4, p4⟩ := fill_ok (N := 42) (f := U3 4) (v := -1) (by decide)
    rw [e4, bs]
    generalize hU4 : up U3 4 g4 = U4
    obtain ⟨g5, e5, p5⟩ := fill_ok (N := 42) (f := U4 5) (v := 0) (by decide)
    rw [e5, bs]
    generalize hU5 : up U4 5 g5 = U5
    obtain ⟨g6, e6, p6⟩ := fill_ok (N := 168) (f := U5 6) (v := -1) (by decide)
    rw [e6, bs, if_pos (by decide), if_pos (by decide)]
    refine ⟨_, rfl, ?_⟩
    generalize hV : up (up (up (up U5 6 g6) 3 _) 4 _) 0 _ = V
    have v0 : V 0 = upd (S 0) 10 2 := by rw [← hV, up_s, up_n (by decide), up_n (by decide), up_n (by decide), ← hU5, up_n (by decide), ← hU4, up_n (by decide), ← hU3, up_n (by decide), hf 0 (by decide)]
    have v2 : V 2 = U 2 := by rw [← hV, up_n (by decide), up_n (by decide), up_n (by decide), up_n (by decide), ← hU5, up_n (by decide), ← hU4, up_n (by decide), ← hU3, up_n (by decide)]
    have v3 : V 3 = upd g3 1 0 := by rw [← hV, up_n (by decide), up_n (by decide), up_s, up_n (by decide), ← hU5, up_n (by decide), ← hU4, up_n (by decide), ← hU3, up_s]; rfl
    have v4 : V 4 = upd g4 1 99 := by rw [← hV, up_n (by decide), up_s, up_n (by decide), up_n (by decide), ← hU5, up_n (by decide), ← hU4, up_s]; rfl
    have v5 : V 5 = g5 := by rw [← hV, up_n (by decide), up_n (by decide), up_n (by decide), up_n (by decide), ← hU5, up_s]
    have v6 : V 6 = g6 := by rw [← hV, up_n (by decide), up_n (by decide), up_n (by decide), up_s]
    have vf : ∀ k, k = 1 ∨ 7 ≤ k → V k = S k := fun k hk => by rw [← hV, up_n (by omega), up_n (by omega), up_n (by omega), up_n (by omega), ← hU5, up_n (by omega), ← hU4, up_n (by omega), ← hU3, up_n (by omega), hf k (by omega)]
    refine ⟨⟨fun k hk => ?_, fun k hk _ => ?_, fun k hk => ?_, fun k hk => ?_, fun k hk => ?_⟩, ?_, vf, fun j hj => by rw [v0, upd_n hj]⟩
    · rw [v2]; exact hg k hk
    · rw [v3]
      by_cases h : k = 1
      · rw [h]; rfl
      · rw [upd_n h, p3 k hk]
        unfold paI
        rw [if_neg (fun q => by have := of_decide_eq_true (p := k < 2) q.1; omega)]
    · rw [v4]
      by_cases h : k = 1
      · rw [h]; rfl
      · rw [upd_n h, p4 k hk]
        show -1 = oI (if k = 1 then some 99 else none)
        rw [if_neg h]; rfl
    · rw [v5, p5 k hk]; rfl
    · rw [v6, p6 k hk]; rfl
    · unfold RC
      rw [v0]
      rfl
