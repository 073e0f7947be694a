/-! PURE 12: the calls that make a change -/
theorem append_ok {S : St} {n : Nat} (k s e t c cl : Int32) (h : S 14 6 = nI n) (hn : n < 40) : ∃ S1, X2_append S k s e t c cl = some (nI n, S1) ∧ (∀ j, j < 14 ∨ 21 ≤ j → S1 j = S j) ∧ S1 14 6 = nI (n + 1) ∧ (∀ j d, 15 ≤ j → j < 21 → d ≠ n → S1 j d = S j d) ∧ S1 15 n = k ∧ S1 16 n = s ∧ S1 17 n = e ∧ S1 18 n = t ∧ S1 19 n = c ∧ S1 20 n = cl := by
  unfold X2_append X2_append_b16 X2_append_b26 X2_append_b36 X2_append_b47 X2_append_b58 X2_append_b69 X2_append_b79
  rw [h, put_in hn (by decide), bs, put_in hn (by decide), bs, put_in hn (by decide), bs, put_in hn (by decide), bs, put_in hn (by decide), bs, put_in hn (by decide), bs]
  generalize hV : up (up (up (up (up (up (up S 15 _) 16 _) 17 _) 18 _) 19 _) 20 _) 14 _ = V
  have v14 : V 14 = upd (S 14) 6 (S 14 6 + 1) := by rw [← hV, up_s, up_n (by decide), up_n (by decide), up_n (by decide), up_n (by decide), up_n (by decide), up_n (by decide)]
  have v15 : V 15 = upd (S 15) n k := by rw [← hV, up_n (by decide), up_n (by decide), up_n (by decide), up_n (by decide), up_n (by decide), up_n (by decide), up_s]
  have v16 : V 16 = upd (S 16) n s := by rw [← hV, up_n (by decide), up_n (by decide), up_n (by decide), up_n (by decide), up_n (by decide), up_s, up_n (by decide)]
  have v17 : V 17 = upd (S 17) n e := by rw [← hV, up_n (by decide), up_n (by decide), up_n (by decide), up_n (by decide), up_s, up_n (by decide), up_n (by decide)]
  have v18 : V 18 = upd (S 18) n t := by rw [← hV, up_n (by decide), up_n (by decide), up_n (by decide), up_s, up_n (by decide), up_n (by decide), up_n (by decide)]
  have v19 : V 19 = upd (S 19) n c := by rw [← hV, up_n (by decide), up_n (by decide), up_s, up_n (by decide), up_n (by decide), up_n (by decide), up_n (by decide)]
  have v20 : V 20 = upd (S 20) n cl := by rw [← hV, up_n (by decide), up_s, up_n (by decide), up_n (by decide), up_n (by decide), up_n (by decide), up_n (by decide)]
  have vf : ∀ j, j < 14 ∨ 21 ≤ j → V j = S j := fun j hj => by rw [← hV, up_n (by omega), up_n (by omega), up_n (by omega), up_n (by omega), up_n (by omega), up_n (by omega), up_n (by omega)]
  refine ⟨V, rfl, vf, by rw [v14, upd_s, h, nI_succ], fun j d a b hd => ?_, by rw [v15, upd_s], by rw [v16, upd_s], by rw [v17, upd_s], by rw [v18, upd_s], by rw [v19, upd_s], by rw [v20, upd_s]⟩
  have : j = 15 ∨ j = 16 ∨ j = 17 ∨ j = 18 ∨ j = 19 ∨ j = 20 := by omega
  rcases this with rfl | rfl | rfl | rfl | rfl | rfl
  · rw [v15, upd_n hd]
  · rw [v16, upd_n hd]
  · rw [v17, upd_n hd]
  · rw [v18, upd_n hd]
  · rw [v19, upd_n hd]
  · rw [v20, upd_n hd]
theorem up_c {M : St} {k n j c : Nat} {v : Int32} (hc : c ≠ n) : up M k (upd (M k) n v) j c = M j c := by
  by_cases h : j = k
  · rw [h, up_s, upd_n hc]
  · rw [up_n h]
theorem madeM_ok {S M M1 : St} {m n kd en : Nat} {lg : Nat → CH} {tm mk bt N A : Nat → Nat} {L L' : List Nat} {F : Nat} (hm : m < 2) (hn : n < 40) (hI : IV m S M n lg tm mk bt N A L L' F) (hF : FM M M1) : ∃ M3, X6_made (up M1 0 (upd (M1 0) 25 0)) (nI m) (nI kd) (nI en) = some (nI n, M3) ∧ (∀ k, k = 1 ∨ k = 2 ∨ 5 ≤ k ∧ k < 9 ∨ 12 ≤ k ∧ k < 17 → M3 k = M k) ∧ (∀ j, j ≠ 2 → j ≠ 25 → M3 0 j = M 0 j) ∧ M3 0 2 = nI (n + 1) ∧ M3 0 25 = 0 ∧ (∀ k c, 3 ≤ k → k < 12 → c ≠ n → M3 k c = M k c) ∧ (M3 3 n = nI kd ∧ M3 4 n = nI en ∧ M3 9 n = nI (mxT bt tm m n + 1) ∧ M3 10 n = nI m ∧ M3 11 n = nI (2 ^ m)) ∧ ∀ k, 18 ≤ k → M3 k = M1 k := by
  obtain ⟨⟨a, _⟩, _, c, _, _, _, _, _⟩ := hI
  have c1 := c.fm hF
  have c2 : LOGM (up M1 0 (upd (M1 0) 25 0)) n lg tm mk bt := c1.fr (by rw [up_s, upd_n (by decide)]) (fun k p q => up_n (by omega))
  obtain ⟨M3, e, e1, e2, e3, e4, e5⟩ := made_ok (kd := kd) (en := en) c2 a hm hn
  refine ⟨M3, e, fun k hk => ?_, fun j p q => ?_, e3, ?_, fun k d p q r => ?_, e5, fun k hk => ?_⟩
  · rw [e1 k (by omega), up_n (by omega)]
    exact hF k (by omega)
  · rw [e2 j p, up_s, upd_n q, hF 0 (by omega)]
  · rw [e2 25 (by decide), up_s, upd_s]
  · rw [e4 k d (by omega) r, up_n (by omega)]
    rw [hF k (by omega)]
  · rw [e1 k (by omega), up_n (by omega)]
/-- what a call gives, beside what it should give -/
def SAME (m : Nat) (a : Option (Nat × Int32 × St)) (b : Option (Int32 × St)) : Prop := ∃ k v S' w M', a = some (k, v, S') ∧ b = some (w, M') ∧ INV m S' M' ∧ k < 4 ∧ M' 0 25 = nI k ∧ (k = 0 → v = w)
theorem same_err {m k : Nat} {S M M1 : St} (h : INV m S M) (hF : QM M M1) (hk : k < 4) (h0 : k ≠ 0) {w : Int32} : SAME m (some (k, 0, S)) (some (w, up M1 0 (upd (M1 0) 25 (nI k)))) := by
  obtain ⟨n, lg, tm, mk, bt, N, A, L, L', F, h⟩ := h
  exact ⟨k, 0, S, w, _, rfl, rfl, ⟨n, lg, tm, mk, bt, N, A, L, L', F, h.q (fun _ _ => rfl) (hF.trans (qm25 M1 _))⟩, hk, by rw [up_s, upd_s], fun q => absurd q h0⟩
theorem nkp {k : Nat} (h0 : k ≠ 0) (hk : k < 4) : ¬ nI k ≤ 0 := nI_nle (by omega) (by omega)
theorem add_no {M : St} {x1 x2 x3 x4 : Int32} {k : Nat} (h0 : k ≠ 0) (hk : k < 4) : X6_add_b62 M x1 x2 x3 x4 (nI k) = some (0, up M 0 (upd (M 0) 25 (nI k))) := by
  unfold X6_add_b62 X6_add_b65
  rw [up_s, upd_s, if_neg (nkp h0 hk)]
theorem set_no {M : St} {x1 x2 x3 x4 : Int32} {k : Nat} (h0 : k ≠ 0) (hk : k < 4) : X6_set_b61 M x1 x2 x3 x4 (nI k) = some (0, up M 0 (upd (M 0) 25 (nI k))) := by
  unfold X6_set_b61 X6_set_b64
  rw [up_s, upd_s, if_neg (nkp h0 hk)]
theorem move_no {M : St} {x1 x2 x3 x4 : Int32} {k : Nat} (h0 : k ≠ 0) (hk : k < 4) : X6_move_b89 M x1 x2 x3 x4 (nI k) = some (0, up M 0 (upd (M 0) 25 (nI k))) := by
  unfold X6_move_b89 X6_move_b92
  rw [up_s, upd_s, if_neg (nkp h0 hk)]
theorem full_ok {S M M1 : St} {m n : Nat} {lg : Nat → CH} {tm mk bt N A : Nat → Nat} {L L' : List Nat} {F : Nat} (hI : IV m S M n lg tm mk bt N A L L' F) (hF : FM M M1) : (n < 40 ∧ X5_checkRoomForChange S = some 0 ∧ ¬ M1 0 2 = 40) ∨ (X5_checkRoomForChange S = some 3 ∧ M1 0 2 = 40) := by
  obtain ⟨⟨a, _⟩, ⟨b, _⟩, ⟨c, _⟩, _⟩ := hI
  have h40 := a.1
  unfold X5_checkRoomForChange
  rw [b, hF 0 (by omega), c]
  rcases Nat.lt_or_ge n 40 with h | h
  · left
    refine ⟨h, ?_, fun q => ?_⟩
    · rw [if_pos (show nI n < 40 from nI_lt (b := 40) h (by decide))]
    · have := (nI_eq (a := n) (b := 40) (by omega) (by decide)).mp q
      omega
  · right
    have e : n = 40 := by omega
    rw [e]
    exact ⟨rfl, rfl⟩
theorem fin_new {S S1 M M3 M4 : St} {m n : Nat} {lg : Nat → CH} {tm mk bt N A : Nat → Nat} {L L' : List Nat} {F : Nat} {c0 : CH} (hm : m < 2) (hn : n < 40) (hI : IV m S M n lg tm mk bt N A L L' F) (wc : WC n c0) (f1 : ∀ j, j < 14 ∨ 21 ≤ j → S1 j = S j) (f2 : S1 14 6 = nI (n + 1)) (f3 : ∀ j d, 15 ≤ j → j < 21 → d ≠ n → S1 j d = S j d) (f4 : LEj S1 n c0) (f16 : S1 16 n = nI (2 * (mxT bt tm m n + 1) + m)) (g1 : ∀ k, k = 1 ∨ k = 2 ∨ 5 ≤ k ∧ k < 9 ∨ 12 ≤ k ∧ k < 17 → M3 k = M k) (g2 : ∀ j, j ≠ 2 → j ≠ 25 → M3 0 j = M 0 j) (g3 : M3 0 2 = nI (n + 1)) (g4 : M3 0 25 = 0) (g5 : ∀ k c, 3 ≤ k → k < 12 → c ≠ n → M3 k c = M k c) (g9 : M3 9 n = nI (mxT bt tm m n + 1)) (g10 : M3 10 n = nI m) (g11 : M3 11 n = nI (2 ^ m)) (q1 : ∀ k, k < 5 ∨ 9 ≤ k → M4 k = M3 k) (q2 : ∀ k c, c ≠ n → M4 k c = M3 k c) (q3 : LMj M4 n c0) : ∃ S2, X4_learn S1 (nI n) = some S2 ∧ INV m S2 M4 ∧ M4 0 25 = nI 0 ∧ S2 0 10 = nI (cntF (tTh (stepC A (repl A lg L) c0)) 42) := by
  obtain ⟨S2, r0, r1, r2⟩ := new_ok (S1 := S1) (M1 := M4) hm hn hI rfl wc (fun k hk => f1 k hk) f2 (fun k c a b d => f3 k c a b d) f4 f16 (fun k hk => (q1 k (by omega)).trans (g1 k (by omega))) (fun j a b => by rw [q1 0 (by omega)]; exact g2 j a b) (by rw [q1 0 (by omega)]; exact g3) (fun k c a b d => (q2 k c d).trans (g5 k c a b d)) q3 (by rw [q1 9 (by omega)]; exact g9) (by rw [q1 10 (by omega)]; exact g10) (by rw [q1 11 (by omega)]; exact g11)
  exact ⟨S2, r0, ⟨_, _, _, _, _, _, _, _, _, _, r1⟩, by rw [q1 0 (by omega), g4]; rfl, r2⟩
theorem e25 {M : St} : (up M 0 (upd (M 0) 25 0)) 0 25 = 0 := by rw [up_s, upd_s]
theorem e02 {S M M1 : St} {m n : Nat} {lg : Nat → CH} {tm mk bt N A : Nat → Nat} {L L' : List Nat} {F : Nat} (hI : IV m S M n lg tm mk bt N A L L' F) (hF : FM M M1) (v : Int32) : (up M1 0 (upd (M1 0) 25 v)) 0 2 = nI n := by
  rw [up_s, upd_n (by decide), hF 0 (by omega)]
  exact hI.2.2.1.1
theorem nkx {a b : Nat} {P : Prop} (q : a = b) (h : Nat.beq a b = false) : P := by
  rw [q, Nat.beq_refl] at h
  exact absurd h (by decide)
theorem w3_of {x l : Nat} (h : l ≤ 99) : ∀ x, some l = some x → x < 100 := fun x q => by rw [← Option.some.inj q]; omega
theorem api_add {m : Nat} {S M : St} (hm : m < 2) (h : INV m S M) (x2 x3 x4 : Int32) : SAME m (X5_add_b5 S x2 x3 x4) (X6_add M (nI m) x2 x3 x4) := by
  have hh := h
  obtain ⟨n, lg, tm, mk, bt, N, A, L, L', F, hI⟩ := hh
  obtain ⟨M1, r1, r2, hcase⟩ := isHere_ok hm hI x2
  unfold X5_add_b5 X6_add
  rcases hcase with ⟨p, hp, rfl, hpt, e1, _, e2⟩ | ⟨_, e1, _, e2⟩
  · rw [e1, e2, bs, bs, if_pos rfl]
    dsimp only
    unfold X6_add_b7 X6_add_b20 X6_add_b57
    rw [if_neg (by decide)]
    rcases ix_3 x4 with ⟨i, hi, rfl, e3, e4⟩ | ⟨_, e3, e4⟩
    · rw [e3, e4, bs, bs, if_pos rfl, if_neg (by decide)]
      rcases arg_both x3 0 99 with ⟨u1, u2, e5, e6⟩ | ⟨e5, e6⟩
      · obtain ⟨l, hl, rfl⟩ := i_nat (hi := 99) (n := 99) rfl u1 u2
        rw [e5, e6, bs, bs, if_pos rfl, if_neg (by decide)]
        rcases full_ok hI r2 with ⟨hn, e7, e8⟩ | ⟨e7, e8⟩
        · rw [e7, bs, if_pos rfl, if_neg e8]
          have hI' := hI
          obtain ⟨⟨a, _⟩, he, c, dT, _, _, _, _⟩ := hI'
          have dT' := dT
          obtain ⟨_, _, d3, d4, _⟩ := dT'
          obtain ⟨w, wc, wth⟩ := repl_WF (A := A) (d3.wkl a)
          unfold X5_checkLabelIsFree
          rcases cwl_ok (l := some l) (e := -1) hp d4.2.1 d4.2.2.1 w.2.1 w.2.2.2.1 (w3_of (x := 0) hl) with ⟨z, hz, hzh, e9⟩ | ⟨hno, e9⟩
          · rcases finds_ok (l := some l) (e := -1) hp r1.1 r1.2.1 r1.2.2.1 w.2.1 w.2.2.2.1 (w3_of (x := 0) hl) with ⟨z', hz', _, e10⟩ | ⟨hno, _⟩
            · rw [show nI l = oI (some l) from rfl, e9, e10, bs, bs, if_neg (nI_nn (by omega)), if_neg (nI_pos (by omega)), bs, if_neg (by decide), show (3 : Int32) = nI 3 from rfl, add_no (by decide) (by decide)]
              exact same_err h r2.qm (by decide) (by decide)
            · rw [hno z hz] at hzh
              exact absurd hzh (by decide)
          · rcases finds_ok (l := some l) (e := -1) hp r1.1 r1.2.1 r1.2.2.1 w.2.1 w.2.2.2.1 (w3_of (x := 0) hl) with ⟨z', hz', hzh', _⟩ | ⟨_, e10⟩
            · rw [hno z' hz'] at hzh'
              exact absurd hzh' (by decide)
            · have en2 : nI n + 2 = nI (n + 2) := nI_add n 2
              rw [show nI l = oI (some l) from rfl, e9, e10, bs, bs, if_pos rfl, if_pos (by decide), bs, if_pos rfl, stamp_ok a hm he dT, bs, he.1, en2]
              obtain ⟨S1, f0, f1, f2, f3, f15, f16, f17, f18, f19, f20⟩ := append_ok 0 (nI (2 * (mxT bt tm m n + 1) + m)) (nI (n + 2)) (nI p) (oI (some l)) (nI i) he.1 hn
              obtain ⟨M3, g0, g1, g2, g3, g4, g5, ⟨g6, g7, g8, g9, g10⟩, _⟩ := madeM_ok (kd := 0) (en := n + 2) hm hn hI r2
              have g0' : X6_made (up M1 0 (upd (M1 0) 25 0)) (nI m) 0 (nI (n + 2)) = some (nI n, M3) := g0
              unfold X6_add_b62 X6_add_b65 X6_add_b86 X6_add_b96 X6_add_b104 X6_add_b113
              rw [f0, bs, e25, if_pos (by decide), e02 hI r2, en2, g0', bs, if_pos (in40 hn), if_pos (in40 hn), if_pos (in40 hn), clN (show n < 1000 by omega)]
              generalize hV : up (up (up M3 5 (upd (M3 5) n (nI p))) 6 _) 7 _ = M4
              have pn : p ≠ n + 2 := fun q => by
                have := (d3.2 n).mp (by have z := wth p (by omega) hpt; rw [q] at z; exact z)
                omega
              obtain ⟨S2, k0, k1, k2, _⟩ := fin_new (M4 := M4) (c0 := (0, n + 2, p, l, i, none)) hm hn hI ⟨(show (0 : Nat) < 4 by decide), (show n + 2 < 42 by omega), hp, (show l < 100 by omega), fun _ => ⟨rfl, pn, hi⟩, fun q => nkx q rfl, fun q => nkx q rfl, fun q => nkx q rfl⟩ f1 f2 f3 ⟨f15, f17, fun _ => ⟨f18, f19, f20⟩, fun q => nkx q rfl, fun q => nkx q rfl⟩ f16 g1 g2 g3 g4 g5 g8 g9 g10 (fun k hk => by rw [← hV, up_n (by omega), up_n (by omega), up_n (by omega)]) (fun k c hc => by rw [← hV, up_c hc, up_c hc, up_c hc]) ⟨by rw [← hV, up_n (by decide), up_n (by decide), up_n (by decide)]; exact g6, by rw [← hV, up_n (by decide), up_n (by decide), up_n (by decide)]; exact g7, fun _ => ⟨by rw [← hV, up_n (by decide), up_n (by decide), up_s, upd_s]; rfl, by rw [← hV, up_n (by decide), up_s, upd_s]; rfl, by rw [← hV, up_s, upd_s]; rfl⟩, fun q => nkx q rfl, fun q => nkx q rfl⟩
              unfold X5_add_b70 X5_add_b73
              rw [k0, bs]
              exact ⟨0, _, S2, _, M4, rfl, rfl, k1, by decide, k2, fun _ => en2.symm⟩
        · rw [e7, bs, if_neg (by decide), if_pos e8, show (3 : Int32) = nI 3 from rfl, add_no (by decide) (by decide)]
          exact same_err h r2.qm (by decide) (by decide)
      · rw [e5, e6, bs, bs, if_neg (by decide), if_pos rfl, show (2 : Int32) = nI 2 from rfl, add_no (by decide) (by decide)]
        exact same_err h r2.qm (by decide) (by decide)
    · rw [e3, e4, bs, bs, if_neg (by decide), if_pos rfl, show (1 : Int32) = nI 1 from rfl, add_no (by decide) (by decide)]
      exact same_err h r2.qm (by decide) (by decide)
  · rw [e1, e2, bs, bs, if_neg (by decide)]
    dsimp only
    unfold X6_add_b7 X6_add_b20
    rw [if_pos rfl, show (1 : Int32) = nI 1 from rfl, add_no (by decide) (by decide)]
    exact same_err h r2.qm (by decide) (by decide)
theorem api_set {m : Nat} {S M : St} (hm : m < 2) (h : INV m S M) (x2 x3 x4 : Int32) : SAME m (X5_set_b5 S x2 x3 x4) (X6_set M (nI m) x2 x3 x4) := by
  have hh := h
  obtain ⟨n, lg, tm, mk, bt, N, A, L, L', F, hI⟩ := hh
  obtain ⟨M1, r1, r2, hcase⟩ := isHere_ok hm hI x2
  unfold X5_set_b5 X6_set
  rcases hcase with ⟨p, hp, rfl, hpt, e1, _, e2⟩ | ⟨_, e1, _, e2⟩
  · rw [e1, e2, bs, bs, if_pos rfl]
    dsimp only
    unfold X6_set_b7 X6_set_b19 X6_set_b56
    rw [if_neg (by decide)]
    rcases ix_4 x3 with ⟨w, hw, rfl, e3, e4⟩ | ⟨_, e3, e4⟩
    · rw [e3, e4, bs, bs, if_pos rfl, if_neg (by decide)]
      rcases arg_both x4 (-1) 9 with ⟨u1, u2, e5, e6⟩ | ⟨e5, e6⟩
      · obtain ⟨o, ho, rfl⟩ := i_opt u1 u2
        rw [e5, e6, bs, bs, if_pos rfl, if_neg (by decide)]
        rcases full_ok hI r2 with ⟨hn, e7, e8⟩ | ⟨e7, e8⟩
        · have hI' := hI
          obtain ⟨⟨a, _⟩, he, c, dT, _, ⟨fA, fB⟩, _, _⟩ := hI'
          have dT' := dT
          obtain ⟨_, _, d3, d4, _⟩ := dT'
          obtain ⟨wf, wc, wth⟩ := repl_WF (A := A) (d3.wkl a)
          rw [e7, bs, if_pos rfl, if_neg e8, mayHold_ok hp hw wf.2.2.2.2.1 d4.2.2.2.1 fA, allowedM_ok hp hw wf.2.2.2.2.1 r1.2.2.2.1 (fB.fr (r2 1 (by omega)) (r2 2 (by omega))), bs, bs]
          cases hb : (A (tIt (repl A lg L) p)).testBit w
          · rw [if_pos bit0, if_pos bit0, show (3 : Int32) = nI 3 from rfl, set_no (by decide) (by decide)]
            exact same_err h r2.qm (by decide) (by decide)
          · rw [if_neg bit1, if_neg bit1, valueAt_ok hp hw d4.2.2.2.2, bs, stamp_ok a hm he dT, bs]
            obtain ⟨S1, f0, f1, f2, f3, f15, f16, f17, f18, f19, f20⟩ := append_ok 1 (nI (2 * (mxT bt tm m n + 1) + m)) (nI p) (nI w) (oI o) (-1) he.1 hn
            obtain ⟨M3, g0, g1, g2, g3, g4, g5, ⟨g6, g7, g8, g9, g10⟩, g11⟩ := madeM_ok (kd := 1) (en := p) hm hn hI r2
            have g0' : X6_made (up M1 0 (upd (M1 0) 25 0)) (nI m) 1 (nI p) = some (nI n, M3) := g0
            unfold X6_set_b61 X6_set_b64 X6_set_b80 X6_set_b90 X6_set_b99
            rw [f0, bs, e25, if_pos (by decide), g0', bs, if_pos (in40 hn), if_pos (in40 hn), clN (show n < 1000 by omega), ix4', if_pos (in168 (by omega)), clN (show 4 * p + w < 1000 by omega)]
            generalize hV : up (up M3 7 (upd (M3 7) n (nI w))) 8 _ = M4
            have v22 : M4 22 (4 * p + w) = oI (tVa (repl A lg L) (4 * p + w)) := by
              rw [← hV, up_n (by decide), up_n (by decide), g11 22 (by decide)]
              exact r1.2.2.2.2 _ (by omega)
            obtain ⟨S2, k0, k1, k2, _⟩ := fin_new (M4 := M4) (c0 := (1, p, 0, 0, w, o)) hm hn hI ⟨(show (1 : Nat) < 4 by decide), hp, (show (0 : Nat) < 42 by decide), (show (0 : Nat) < 100 by decide), fun q => nkx q rfl, fun _ => ⟨hw, ho⟩, fun q => nkx q rfl, fun q => nkx q rfl⟩ f1 f2 f3 ⟨f15, f17, fun q => nkx q rfl, fun _ => ⟨f18, f19⟩, fun q => nkx q rfl⟩ f16 g1 g2 g3 g4 g5 g8 g9 g10 (fun k hk => by rw [← hV, up_n (by omega), up_n (by omega)]) (fun k c hc => by rw [← hV, up_c hc, up_c hc]) ⟨by rw [← hV, up_n (by decide), up_n (by decide)]; exact g6, by rw [← hV, up_n (by decide), up_n (by decide)]; exact g7, fun q => nkx q rfl, fun _ => ⟨by rw [← hV, up_n (by decide), up_s, upd_s]; rfl, by rw [← hV, up_s, upd_s]; rfl⟩, fun q => nkx q rfl⟩
            unfold X5_set_b79 X5_set_b82
            rw [k0, bs]
            exact ⟨0, _, S2, _, M4, rfl, rfl, k1, by decide, k2, fun _ => v22.symm⟩
        · rw [e7, bs, if_neg (by decide), if_pos e8, show (3 : Int32) = nI 3 from rfl, set_no (by decide) (by decide)]
          exact same_err h r2.qm (by decide) (by decide)
      · rw [e5, e6, bs, bs, if_neg (by decide), if_pos rfl, show (2 : Int32) = nI 2 from rfl, set_no (by decide) (by decide)]
        exact same_err h r2.qm (by decide) (by decide)
    · rw [e3, e4, bs, bs, if_neg (by decide), if_pos rfl, show (1 : Int32) = nI 1 from rfl, set_no (by decide) (by decide)]
      exact same_err h r2.qm (by decide) (by decide)
  · rw [e1, e2, bs, bs, if_neg (by decide)]
    dsimp only
    unfold X6_set_b7 X6_set_b19
    rw [if_pos rfl, show (1 : Int32) = nI 1 from rfl, set_no (by decide) (by decide)]
    exact same_err h r2.qm (by decide) (by decide)
