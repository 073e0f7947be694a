/-! PURE 14: move, delete -/
theorem fixed_ok {p : Nat} (hp : p < 42) : (2 ≤ p ∧ X5_checkIsNotFixed (nI p) = some 0 ∧ ¬ nI p < 2) ∨ (X5_checkIsNotFixed (nI p) = some 3 ∧ nI p < 2) := by
  unfold X5_checkIsNotFixed X5_checkIsNotFixed_b9
  rcases Nat.lt_or_ge p 2 with h | h
  · right
    have x : p = 0 ∨ p = 1 := by omega
    rcases x with rfl | rfl
    · exact ⟨rfl, by decide⟩
    · exact ⟨rfl, by decide⟩
  · left
    refine ⟨h, ?_, nI_nlt (b := 2) h (by omega)⟩
    rw [if_neg (nI_ne0 (by omega) (by omega)), if_neg (show ¬ nI p = 1 from fun q => by have := (nI_eq (b := 1) (by omega) (by decide)).mp q; omega)]
theorem api_move {m : Nat} {S M : St} (hm : m < 2) (h : INV m S M) (x2 x3 x4 : Int32) : SAME m (X5_move_b5 S x2 x3 x4) (X6_move M (nI m) x2 x3 x4) := by
  have hh := h
  obtain ⟨n, lg, tm, mk, bt, N, A, L, L', F, hI⟩ := hh
  obtain ⟨M1, r1, r2, hc3⟩ := isHere_ok hm hI x3
  have hI1 : IV m S M1 n lg tm mk bt N A L L' F := hI.q (fun _ _ => rfl) r2.qm
  obtain ⟨M2, s1, s2, hc2⟩ := isHere_ok hm hI1 x2
  have r12 : FM M M2 := r2.trans s2
  unfold X5_move_b5 X6_move
  rcases hc3 with ⟨q, hq, rfl, hqt, a1, _, a2⟩ | ⟨_, a1, _, a2⟩
  · rw [a1, bs]
    try dsimp only
    unfold X6_move_b6
    rw [if_neg (by decide)]
    rcases hc2 with ⟨p, hp, rfl, hpt, e1, _, e2⟩ | ⟨_, e1, _, e2⟩
    · rw [e1, bs, e2, bs, if_pos rfl, a2, bs, if_pos rfl]
      try dsimp only
      unfold X6_move_b15
      rw [if_neg (by decide)]
      unfold X6_move_b23 X6_move_b84
      rw [if_neg (by decide)]
      rcases arg_both x4 0 99 with ⟨u1, u2, e5, e6⟩ | ⟨e5, e6⟩
      · obtain ⟨l, hl, rfl⟩ := i_nat (hi := 99) (n := 99) rfl u1 u2
        rw [e5, e6, bs, bs, if_pos rfl, if_neg (by decide)]
        rcases full_ok hI r12 with ⟨hn, e7, e8⟩ | ⟨e7, e8⟩
        · rw [e7, bs, if_pos rfl, if_neg e8]
          rcases fixed_ok hp with ⟨p2, e9, e10⟩ | ⟨e9, e10⟩
          · have hI' := hI
            obtain ⟨⟨a, _⟩, he, c, dT, _, _, _, _⟩ := hI'
            have dT' := dT
            obtain ⟨_, _, d3, d4, _⟩ := dT'
            obtain ⟨w, wc, wth⟩ := repl_WF (A := A) (d3.wkl a)
            rw [e9, bs, if_pos rfl, if_neg e10, below_ok (show p ≠ 0 by omega) hp hq hpt w.1 w.2.1 w.2.2.1 wc d4.2.1, bs, within_ok (show p ≠ 0 by omega) hp hq hqt w.1 w.2.1 w.2.2.1 wc s1.2.1, bs, hqt, Bool.true_and]
            cases hb : bel (repl A lg L) q p
            · rw [if_pos bit0, if_pos bit0]
              unfold X5_checkLabelIsFree
              rcases cwl_ok (l := some l) (e := nI p) hq (E3.all d4.2.1 _) d4.2.2.1 w.2.1 w.2.2.2.1 (w3_of (x := 0) hl) with ⟨z, hz, hzh, e11⟩ | ⟨hno, e11⟩
              · rcases finds_ok (l := some l) (e := nI p) hq s1.1 (M19.all s1.2.1 _) s1.2.2.1 w.2.1 w.2.2.2.1 (w3_of (x := 0) hl) with ⟨z', hz', _, e12⟩ | ⟨hno, _⟩
                · rw [show nI l = oI (some l) from rfl, e11, e12, bs, bs, if_neg (nI_nn (by omega)), if_neg (nI_pos (by omega)), bs, if_neg (by decide), show (3 : Int32) = nI 3 from rfl, move_no (by decide) (by decide)]
                  exact same_err h r12.qm (by decide) (by decide)
                · rw [hno z hz] at hzh
                  exact absurd hzh (by decide)
              · rcases finds_ok (l := some l) (e := nI p) hq s1.1 (M19.all s1.2.1 _) s1.2.2.1 w.2.1 w.2.2.2.1 (w3_of (x := 0) hl) with ⟨z', hz', hzh', _⟩ | ⟨_, e12⟩
                · rw [hno z' hz'] at hzh'
                  exact absurd hzh' (by decide)
                · rw [show nI l = oI (some l) from rfl, e11, e12, bs, bs, if_pos rfl, if_pos (by decide), bs, if_pos rfl, parentAt_ok d4.2.1 hp, bs, stamp_ok a hm he dT, bs]
                  obtain ⟨S1, f0, f1, f2, f3, f15, f16, f17, f18, f19, f20⟩ := append_ok 2 (nI (2 * (mxT bt tm m n + 1) + m)) (nI p) (nI q) (oI (some l)) (-1) he.1 hn
                  obtain ⟨M3, g0, g1, g2, g3, g4, g5, ⟨g6, g7, g8, g9, g10⟩, g11⟩ := madeM_ok (kd := 2) (en := p) hm hn hI r12
                  have g0' : X6_made (up M2 0 (upd (M2 0) 25 0)) (nI m) 2 (nI p) = some (nI n, M3) := g0
                  unfold X6_move_b89 X6_move_b92 X6_move_b108 X6_move_b118 X6_move_b127
                  rw [f0, bs, e25, if_pos (by decide), g0', bs, if_pos (in40 hn), if_pos (in40 hn), if_pos (in42 hp), clN (show n < 1000 by omega), cl42 hp]
                  generalize hV : up (up M3 5 (upd (M3 5) n (nI q))) 6 _ = M4
                  have v19 : M4 19 p = paI (repl A lg L) p := by
                    rw [← hV, up_n (by decide), up_n (by decide), g11 19 (by decide), s1.2.1 p hp (nI_nn (by omega)) hpt, paI_th hpt]
                  obtain ⟨S2, k0, k1, k2, _⟩ := fin_new (M4 := M4) (c0 := (2, p, q, l, 0, none)) hm hn hI ⟨(show (2 : Nat) < 4 by decide), hp, hq, (show l < 100 by omega), fun q => nkx q rfl, fun q => nkx q rfl, fun _ => p2, fun q => nkx q rfl⟩ f1 f2 f3 ⟨f15, f17, fun q => nkx q rfl, fun q => nkx q rfl, fun _ => ⟨f18, f19⟩⟩ f16 g1 g2 g3 g4 g5 g8 g9 g10 (fun k hk => by rw [← hV, up_n (by omega), up_n (by omega)]) (fun k c hc => by rw [← hV, up_c hc, up_c hc]) ⟨by rw [← hV, up_n (by decide), up_n (by decide)]; exact g6, by rw [← hV, up_n (by decide), up_n (by decide)]; exact g7, fun q => nkx q rfl, fun q => nkx q rfl, fun _ => ⟨by rw [← hV, up_n (by decide), up_s, upd_s]; rfl, by rw [← hV, up_s, upd_s]; rfl⟩⟩
                  unfold X5_move_b92 X5_move_b95
                  rw [k0, bs]
                  exact ⟨0, _, S2, _, M4, rfl, rfl, k1, by decide, k2, fun _ => v19.symm⟩
            · rw [if_neg bit1, if_neg bit1, show (3 : Int32) = nI 3 from rfl, move_no (by decide) (by decide)]
              exact same_err h r12.qm (by decide) (by decide)
          · rw [e9, bs, if_neg (by decide), if_pos e10, show (3 : Int32) = nI 3 from rfl, move_no (by decide) (by decide)]
            exact same_err h r12.qm (by decide) (by decide)
        · rw [e7, bs, if_neg (by decide), if_pos e8, show (3 : Int32) = nI 3 from rfl, move_no (by decide) (by decide)]
          exact same_err h r12.qm (by decide) (by decide)
      · rw [e5, e6, bs, bs, if_neg (by decide), if_pos rfl, show (2 : Int32) = nI 2 from rfl, move_no (by decide) (by decide)]
        exact same_err h r12.qm (by decide) (by decide)
    · rw [e1, bs, e2, bs, if_neg (by decide)]
      try dsimp only
      unfold X6_move_b15
      rw [if_pos rfl]
      unfold X6_move_b22 X6_move_b23
      rw [if_pos rfl, show (1 : Int32) = nI 1 from rfl, move_no (by decide) (by decide)]
      exact same_err h r12.qm (by decide) (by decide)
  · rw [a1, bs]
    try dsimp only
    unfold X6_move_b6
    rw [if_pos rfl]
    unfold X6_move_b22 X6_move_b23
    rw [if_pos rfl, show (1 : Int32) = nI 1 from rfl, move_no (by decide) (by decide)]
    rcases hc2 with ⟨p, hp, rfl, hpt, _, _, e2⟩ | ⟨_, _, _, e2⟩
    · rw [e2, bs, if_pos rfl, a2, bs, if_neg (by decide)]
      exact same_err h r2.qm (by decide) (by decide)
    · rw [e2, bs, if_neg (by decide)]
      exact same_err h r2.qm (by decide) (by decide)
theorem cntF_pos {f : Nat → Bool} : ∀ n j, j < n → f j = true → 0 < cntF f n
  | 0, j, h, _ => absurd h (Nat.not_lt_zero j)
  | n + 1, j, h, e => by
    show 0 < cntF f n + (if f n = true then 1 else 0)
    rcases Nat.lt_or_ge j n with q | q
    · have := cntF_pos n j q e
      omega
    · rw [show n = j by omega, if_pos e]
      omega
theorem cntF_none {f : Nat → Bool} : ∀ n, (∀ j, j < n → f j = false) → cntF f n = 0
  | 0, _ => rfl
  | n + 1, h => by
    show cntF f n + (if f n = true then 1 else 0) = 0
    rw [cntF_none n (fun j hj => h j (by omega)), h n (by omega)]
    rfl
theorem kids_ok {S M : St} {T : AT} {p : Nat} (hp : p < 42) (w1 : W1 T) (h3 : E3 S T (-1)) (g1 : M18 M T) (g3 : M19 M T (-1)) : (X4_hasChild S (nI p) = some 1 ∧ ∃ z, X6_count M (nI p) = some (nI z) ∧ 0 < z ∧ z < 1000) ∨ (X4_hasChild S (nI p) = some 0 ∧ X6_count M (nI p) = some (nI 0)) := by
  unfold X4_hasChild X4_hasChild_L2
  rw [count_ok g1 g3]
  have hb := cntF_le (fun j => tTh T j && (decide (nI p < 0) || decide (paM T j = nI p))) 42
  have key := wl_find (f := fun a' : (Int32 × Int32) => X4_hasChild_H2 S a'.1 a'.2) (N := 42) (fun j => (nI p, nI j)) (fun j => decide (paI T j = nI p)) (fun _ => (1 : Int32)) (r := 0) (by decide) (fun j hj => ?_) ?_
  · rcases key with ⟨k, hk, hP, _, h⟩ | ⟨hn, h⟩
    · left
      have hP' := (paI_eq hp (w1 k hk)).mp (of_decide_eq_true hP)
      refine ⟨h, _, rfl, cntF_pos 42 k hk ?_, by omega⟩
      have e := (paM_eq hp (w1 k hk)).mpr hP'.2
      show (tTh T k && (decide (nI p < 0) || decide (paM T k = nI p))) = true
      rw [hP'.1, decide_eq_true e, Bool.or_true, Bool.true_and]
    · right
      refine ⟨h, ?_⟩
      rw [cntF_none 42 (fun j hj => ?_)]
      show (tTh T j && (decide (nI p < 0) || decide (paM T j = nI p))) = false
      cases ht : tTh T j
      · rfl
      · rw [Bool.true_and, decide_eq_false (nI_pos (by omega)), Bool.false_or]
        refine decide_eq_false (fun q => ?_)
        exact (of_decide_eq_false (hn j hj)) ((paI_eq hp (w1 j hj)).mpr ⟨ht, (paM_eq hp (w1 j hj)).mp q⟩)
  · show X4_hasChild_H2 S (nI p) (nI j) = if decide (paI T j = nI p) = true then _ else _
    unfold X4_hasChild_H2 X4_hasChild_b18
    rw [if_neg (ge42 hj), if_pos (in42 hj), cl42 hj, h3 j hj (nI_nn (by omega))]
    by_cases q : paI T j = nI p
    · rw [if_pos q, if_pos (decide_eq_true q)]
      rfl
    · rw [if_neg q, if_neg (by rw [decide_eq_true_eq]; exact q), nI_succ]
  · show X4_hasChild_H2 S (nI p) (nI 42) = _
    unfold X4_hasChild_H2
    rw [if_pos le42]
    rfl
def dco (k : Nat) : Nat := if k = 3 then 2 else k
def SAMD (m : Nat) (a : Option (Nat × Int32 × St)) (b : Option (Int32 × St)) : Prop := ∃ k v S' w M', a = some (k, v, S') ∧ b = some (w, M') ∧ INV m S' M' ∧ (k = 0 ∨ k = 1 ∨ k = 3) ∧ M' 0 25 = nI (dco k) ∧ (k = 0 → v = w)
theorem samd_err {m k : Nat} {S M M1 : St} (h : INV m S M) (hF : QM M M1) (hk : k = 0 ∨ k = 1 ∨ k = 3) (h0 : k ≠ 0) {w : Int32} : SAMD m (some (k, 0, S)) (some (w, up M1 0 (upd (M1 0) 25 (nI (dco k))))) := by
  obtain ⟨n, lg, tm, mk, bt, N, A, L, L', F, h⟩ := h
  exact ⟨k, 0, S, w, _, rfl, rfl, ⟨n, lg, tm, mk, bt, N, A, L, L', F, h.q (fun _ _ => rfl) (hF.trans (qm25 M1 _))⟩, hk, by rw [up_s, upd_s], fun q => absurd q h0⟩
theorem delete_no {M : St} {x1 x2 : Int32} {k : Nat} (h0 : k ≠ 0) (hk : k < 4) : X6_delete_b41 M x1 x2 (nI k) = some (0, up M 0 (upd (M 0) 25 (nI k))) := by
  unfold X6_delete_b41 X6_delete_b44
  rw [up_s, upd_s, if_neg (nkp h0 hk)]
theorem tTh_stepD {T : AT} {x : Nat} (h : tTh T x = true) : tTh (stepD T x) = fu (tTh T) x false := by
  unfold stepD
  rw [if_pos h, tTh_fr]
  rfl
theorem api_delete {m : Nat} {S M : St} (hm : m < 2) (h : INV m S M) (x2 : Int32) : SAMD m (X5_delete_b5 S x2) (X6_delete M (nI m) x2) := by
  have hh := h
  obtain ⟨n, lg, tm, mk, bt, N, A, L, L', F, hI⟩ := hh
  obtain ⟨M1, r1, r2, hcase⟩ := isHere_ok hm hI x2
  unfold X5_delete_b5 X6_delete
  rcases hcase with ⟨p, hp, rfl, hpt, e1, _, e2⟩ | ⟨_, e1, _, e2⟩
  · rw [e1, e2, bs, bs, if_pos rfl]
    try dsimp only
    unfold X6_delete_b7 X6_delete_b36
    rw [if_neg (by decide)]
    rcases full_ok hI r2 with ⟨hn, e7, e8⟩ | ⟨e7, e8⟩
    · rw [e7, bs, if_pos rfl, if_neg e8]
      rcases fixed_ok hp with ⟨p2, e9, e10⟩ | ⟨e9, e10⟩
      · have hI' := hI
        obtain ⟨⟨a, _⟩, he, c, dT, _, _, _, _⟩ := hI'
        have dT' := dT
        obtain ⟨_, _, d3, d4, _⟩ := dT'
        obtain ⟨w, wc, wth⟩ := repl_WF (A := A) (d3.wkl a)
        rw [e9, bs, if_pos rfl, if_neg e10]
        rcases kids_ok hp w.2.1 d4.2.1 r1.1 r1.2.1 with ⟨e11, z, e12, hz, hz2⟩ | ⟨e11, e12⟩
        · rw [e11, e12, bs, bs, if_neg (by decide), if_neg (nI_nle hz (by omega)), show (2 : Int32) = nI (dco 3) from rfl, delete_no (by decide) (by decide)]
          exact samd_err h r2.qm (.inr (.inr rfl)) (by decide)
        · rw [e11, e12, bs, bs, if_pos rfl, if_pos (by decide), stamp_ok a hm he dT, bs]
          obtain ⟨S1, f0, f1, f2, f3, f15, f16, f17, f18, f19, f20⟩ := append_ok 3 (nI (2 * (mxT bt tm m n + 1) + m)) (nI p) (-1) (-1) (-1) he.1 hn
          obtain ⟨M3, g0, g1, g2, g3, g4, g5, ⟨g6, g7, g8, g9, g10⟩, g11⟩ := madeM_ok (kd := 3) (en := p) hm hn hI r2
          have g0' : X6_made (up M1 0 (upd (M1 0) 25 0)) (nI m) 3 (nI p) = some (nI n, M3) := g0
          unfold X6_delete_b41 X6_delete_b44 X6_delete_b60
          rw [f0, bs, e25, if_pos (by decide), g0', bs]
          try dsimp only
          rw [countAll_ok (S := M3) (T := repl A lg L) (fun k hk => by rw [g11 18 (by decide)]; exact r1.1 k hk) (fun k hk a b => by rw [g11 19 (by decide)]; exact r1.2.1 k hk a b), bs]
          obtain ⟨S2, k0, k1, k2, k3⟩ := fin_new (M4 := M3) (c0 := (3, p, 0, 0, 0, none)) hm hn hI ⟨(show (3 : Nat) < 4 by decide), hp, (show (0 : Nat) < 42 by decide), (show (0 : Nat) < 100 by decide), fun q => nkx q rfl, fun q => nkx q rfl, fun q => nkx q rfl, fun _ => p2⟩ f1 f2 f3 ⟨f15, f17, fun q => nkx q rfl, fun q => nkx q rfl, fun q => nkx q rfl⟩ f16 g1 g2 g3 g4 g5 g8 g9 g10 (fun _ _ => rfl) (fun _ _ _ => rfl) ⟨g6, g7, fun q => nkx q rfl, fun q => nkx q rfl, fun q => nkx q rfl⟩
          unfold X5_delete_b54 X5_delete_b57
          rw [k0, bs, k3]
          refine ⟨0, _, S2, _, M3, rfl, rfl, k1, .inl rfl, k2, fun _ => ?_⟩
          have e : tTh (stepC A (repl A lg L) (3, p, 0, 0, 0, none)) = fu (tTh (repl A lg L)) p false := tTh_stepD hpt
          have e' := cntF_del hpt 42
          rw [if_pos hp] at e'
          rw [e, ← e', nI_pred]
      · rw [e9, bs, if_neg (by decide), if_pos e10, show (2 : Int32) = nI (dco 3) from rfl, delete_no (by decide) (by decide)]
        exact samd_err h r2.qm (.inr (.inr rfl)) (by decide)
    · rw [e7, bs, if_neg (by decide), if_pos e8, show (2 : Int32) = nI (dco 3) from rfl, delete_no (by decide) (by decide)]
      exact samd_err h r2.qm (.inr (.inr rfl)) (by decide)
  · rw [e1, e2, bs, bs, if_neg (by decide)]
    try dsimp only
    unfold X6_delete_b7
    rw [if_pos rfl, show (1 : Int32) = nI (dco 1) from rfl, delete_no (by decide) (by decide)]
    exact samd_err h r2.qm (.inr (.inl rfl)) (by decide)
