/-! PURE 11: a new change -/
def mxT (bt tm : Nat → Nat) (m : Nat) : Nat → Nat := fr (fun j a => if (bt j).testBit m = true ∧ ¬ tm j ≤ a then tm j else a) 0
theorem mxT_ge {bt tm : Nat → Nat} {m : Nat} : ∀ n j, j < n → (bt j).testBit m = true → tm j ≤ mxT bt tm m n := by
  intro n
  induction n with
  | zero => intro j hj; exact absurd hj (Nat.not_lt_zero j)
  | succ n ih =>
    intro j hj hb
    show tm j ≤ if (bt n).testBit m = true ∧ ¬ tm n ≤ mxT bt tm m n then tm n else mxT bt tm m n
    rcases Nat.lt_or_ge j n with h | h
    · have := ih j h hb
      split <;> omega
    · have e : j = n := by omega
      rw [e] at hb ⊢
      by_cases q : tm n ≤ mxT bt tm m n
      · rw [if_neg (fun z => z.2 q)]; exact q
      · rw [if_pos ⟨hb, q⟩]; exact Nat.le_refl _
theorem mxT_in {bt tm : Nat → Nat} {m : Nat} : ∀ n, mxT bt tm m n = 0 ∨ ∃ j, j < n ∧ (bt j).testBit m = true ∧ mxT bt tm m n = tm j := by
  intro n
  induction n with
  | zero => exact .inl rfl
  | succ n ih =>
    show (if (bt n).testBit m = true ∧ ¬ tm n ≤ mxT bt tm m n then tm n else mxT bt tm m n) = 0 ∨ ∃ j, j < n + 1 ∧ (bt j).testBit m = true ∧ (if (bt n).testBit m = true ∧ ¬ tm n ≤ mxT bt tm m n then tm n else mxT bt tm m n) = tm j
    by_cases q : (bt n).testBit m = true ∧ ¬ tm n ≤ mxT bt tm m n
    · rw [if_pos q]
      exact .inr ⟨n, Nat.lt_succ_self n, q.1, rfl⟩
    · rw [if_neg q]
      rcases ih with h | ⟨j, a, b, c⟩
      · exact .inl h
      · exact .inr ⟨j, by omega, b, c⟩
theorem mxT_le {n : Nat} {lg : Nat → CH} {tm mk bt : Nat → Nat} {m : Nat} (hw : LOGW n lg tm mk bt) : ∀ k, k ≤ n → mxT bt tm m k ≤ k := by
  intro k hk
  rcases mxT_in (bt := bt) (tm := tm) (m := m) k with h | ⟨j, a, b, c⟩
  · omega
  · have := (hw.2.1 j (by omega)).2.1
    omega
theorem shl1 {m : Nat} (hm : m < 2) : (1 : Int32) <<< (nI m &&& 31) = nI (2 ^ m) := by
  have : m = 0 ∨ m = 1 := by omega
  rcases this with rfl | rfl <;> decide
theorem made_ok {M : St} {n m kd en : Nat} {lg : Nat → CH} {tm mk bt : Nat → Nat} (hl : LOGM M n lg tm mk bt) (hw : LOGW n lg tm mk bt) (hm : m < 2) (hn : n < 40) : ∃ M1, X6_made M (nI m) (nI kd) (nI en) = some (nI n, M1) ∧ (∀ k, k = 1 ∨ k = 2 ∨ 5 ≤ k ∧ k < 9 ∨ 12 ≤ k → M1 k = M k) ∧ (∀ j, j ≠ 2 → M1 0 j = M 0 j) ∧ M1 0 2 = nI (n + 1) ∧ (∀ k j, k ≠ 0 → j ≠ n → M1 k j = M k j) ∧ M1 3 n = nI kd ∧ M1 4 n = nI en ∧ M1 9 n = nI (mxT bt tm m n + 1) ∧ M1 10 n = nI m ∧ M1 11 n = nI (2 ^ m) := by
  have key : X6_made M (nI m) (nI kd) (nI en) = X6_made_b57 M (nI m) (nI kd) (nI en) (nI (mxT bt tm m n)) := by
    have fin : ∃ r, X6_made_b57 M (nI m) (nI kd) (nI en) (nI (mxT bt tm m n)) = some r := by
      unfold X6_made_b57 X6_made_b67 X6_made_b77 X6_made_b90 X6_made_b100
      rw [hl.1, if_pos (in40 hn)]
      simp only [up_n (show (0 : Nat) ≠ 3 by decide), up_n (show (0 : Nat) ≠ 4 by decide), up_n (show (0 : Nat) ≠ 9 by decide), up_n (show (0 : Nat) ≠ 10 by decide), hl.1]
      rw [if_pos (in40 hn), if_pos (in40 hn), if_pos (in40 hn), if_pos (in40 hn)]
      exact ⟨_, rfl⟩
    obtain ⟨r, hr⟩ := fin
    rw [hr]
    unfold X6_made X6_made_L6
    refine wl_for0 (f := fun a' : (St × Int32 × Int32 × Int32 × Int32 × Int32) => X6_made_H6 a'.1 a'.2.1 a'.2.2.1 a'.2.2.2.1 a'.2.2.2.2.1 a'.2.2.2.2.2) (N := n) (fun j => (M, nI m, nI kd, nI en, nI (mxT bt tm m j), nI j)) (fun j hj => ?_) ?_ (by omega)
    · obtain ⟨_, l9, _, l11⟩ := hl.2 j hj
      obtain ⟨_, b1, _, b3⟩ := hw.2.1 j hj
      have hmx := mxT_le (m := m) hw j (by omega)
      show X6_made_H6 M (nI m) (nI kd) (nI en) (nI (mxT bt tm m j)) (nI j) = some (.inl (M, nI m, nI kd, nI en, nI (if (bt j).testBit m = true ∧ ¬ tm j ≤ mxT bt tm m j then tm j else mxT bt tm m j), nI (j + 1)))
      unfold X6_made_H6 X6_made_b47 X6_made_b49
      rw [hl.1, if_neg (nI_ge hj (by omega)), knowsM_ok (by omega) l11 b3 hm, bs, nI_succ]
      cases hk : (bt j).testBit m
      · rw [if_pos bit0, if_neg (fun q => absurd q.1 (by decide))]
      · rw [if_neg bit1, if_pos (in40 (by omega)), clN (by omega), l9]
        by_cases q : tm j ≤ mxT bt tm m j
        · rw [if_pos (nI_le q (by omega)), if_neg (fun z => z.2 q)]
        · rw [if_neg (nI_ge (by omega) (by omega)), if_pos (in40 (by omega)), if_pos ⟨rfl, q⟩]
    · show X6_made_H6 M (nI m) (nI kd) (nI en) (nI (mxT bt tm m n)) (nI n) = _
      unfold X6_made_H6
      rw [hl.1, if_pos (nI_le (Nat.le_refl n) (by omega)), hr]
      rfl
  rw [key]
  unfold X6_made_b57 X6_made_b67 X6_made_b77 X6_made_b90 X6_made_b100 X6_made_b112 X6_made_b122
  rw [hl.1, if_pos (in40 hn), clN (show n < 1000 by omega)]
  simp only [up_n (show (0 : Nat) ≠ 3 by decide), up_n (show (0 : Nat) ≠ 4 by decide), up_n (show (0 : Nat) ≠ 9 by decide), up_n (show (0 : Nat) ≠ 10 by decide), up_n (show (0 : Nat) ≠ 11 by decide), hl.1]
  rw [if_pos (in40 hn), if_pos (in40 hn), if_pos (in40 hn), if_pos (in40 hn), clN (show n < 1000 by omega), shl1 hm]
  generalize hV : up (up (up (up (up (up M 3 _) 4 _) 9 _) 10 _) 11 _) 0 _ = V
  have v0 : V 0 = upd (M 0) 2 (nI n + 1) := by rw [← hV, up_s]
  have v3 : V 3 = upd (M 3) n (nI kd) := by rw [← hV, up_n (by decide), up_n (by decide), up_n (by decide), up_n (by decide), up_n (by decide), up_s]
  have v4 : V 4 = upd (M 4) n (nI en) := by rw [← hV, up_n (by decide), up_n (by decide), up_n (by decide), up_n (by decide), up_s, up_n (by decide)]
  have v9 : V 9 = upd (M 9) n (nI (mxT bt tm m n) + 1) := by rw [← hV, up_n (by decide), up_n (by decide), up_n (by decide), up_s, up_n (by decide), up_n (by decide)]
  have v10 : V 10 = upd (M 10) n (nI m) := by rw [← hV, up_n (by decide), up_n (by decide), up_s, up_n (by decide), up_n (by decide), up_n (by decide)]
  have v11 : V 11 = upd (M 11) n (nI (2 ^ m)) := by rw [← hV, up_n (by decide), up_s, up_n (by decide), up_n (by decide), up_n (by decide), up_n (by decide)]
  have vf : ∀ k, k ≠ 0 → k ≠ 3 → k ≠ 4 → k ≠ 9 → k ≠ 10 → k ≠ 11 → V k = M k := fun k a b c d e f => by rw [← hV, up_n a, up_n f, up_n e, up_n d, up_n c, up_n b]
  refine ⟨V, ?_, fun k hk => vf k (by omega) (by omega) (by omega) (by omega) (by omega) (by omega), fun j hj => by rw [v0, upd_n hj], by rw [v0, upd_s, nI_succ], fun k j hk hj => ?_, by rw [v3, upd_s], by rw [v4, upd_s], by rw [v9, upd_s, nI_succ], by rw [v10, upd_s], by rw [v11, upd_s]⟩
  · rw [v0, upd_s, ← nI_succ, nI_pred]
  · by_cases h3 : k = 3
    · rw [h3, v3, upd_n hj]
    · by_cases h4 : k = 4
      · rw [h4, v4, upd_n hj]
      · by_cases h9 : k = 9
        · rw [h9, v9, upd_n hj]
        · by_cases h10 : k = 10
          · rw [h10, v10, upd_n hj]
          · by_cases h11 : k = 11
            · rw [h11, v11, upd_n hj]
            · rw [vf k hk h3 h4 h9 h10 h11]
theorem stamp_ok {S : St} {m n : Nat} {lg : Nat → CH} {tm mk bt A : Nat → Nat} {L : List Nat} (hw : LOGW n lg tm mk bt) (hm : m < 2) (he : LOGE S n lg (stp tm mk)) (hT : TR S m n lg bt (stp tm mk) A L) : X4_stampOfNext S = some (nI (2 * (mxT bt tm m n + 1) + m)) := by
  obtain ⟨d1, d2, d3, _, _⟩ := hT
  have h40 := hw.1
  have hlen := d3.len h40
  have hmx := mxT_le (m := m) hw n (Nat.le_refl n)
  have e31 : ∀ k, k ≤ 100 → X4_stampOfNext_b31 S (nI k) = some (nI (2 * (k + 1) + m)) := fun k hk => by
    unfold X4_stampOfNext_b31 X2_stampFrom
    rw [bs, d1, ← nI_succ, show (2 : Int32) = nI 2 from rfl, pk_mul, nI_add, Nat.mul_comm]
  unfold X4_stampOfNext
  rw [d2.1]
  rcases Nat.eq_zero_or_pos L.length with h | h
  · have h0 : mxT bt tm m n = 0 := by
      rcases mxT_in (bt := bt) (tm := tm) (m := m) n with q | ⟨j, a, b, c⟩
      · exact q
      · have hj := (d3.2 j).mpr ⟨a, b⟩
        rw [List.length_eq_zero_iff.mp h] at hj
        exact nomatch hj
    rw [h, if_pos (show nI 0 = 0 from nI_0), h0]
    exact e31 0 (by omega)
  · obtain ⟨q, hq⟩ : ∃ q, L.length = q + 1 := ⟨L.length - 1, by omega⟩
    obtain ⟨c, hc, hcm⟩ := get_lt (L := L) (i := q) (by omega)
    have hcn := (d3.2 c).mp hcm
    have hbc := hw.2.1 c hcn.1
    have hmx2 : mxT bt tm m n = tm c := by
      have h1 := mxT_ge (bt := bt) (tm := tm) (m := m) n c hcn.1 hcn.2
      rcases mxT_in (bt := bt) (tm := tm) (m := m) n with z | ⟨j, a, b, e⟩
      · omega
      · obtain ⟨i, hi1, hi2⟩ := List.mem_iff_getElem.mp ((d3.2 j).mpr ⟨a, b⟩)
        have hij : L[i]? = some j := by rw [List.getElem?_eq_getElem hi1, hi2]
        have hbj := hw.2.1 j a
        rcases Nat.lt_or_ge i q with z | z
        · have hlt := so_idx_lt L d3.1 i q j c z hij hc
          unfold stp at hlt
          omega
        · rw [show i = q by omega, hc] at hij
          rw [e, Option.some.inj hij]
    rw [hq, if_neg (nI_ne0 (by omega) (by omega)), nI_pred, at_in (by omega) (by decide), bs, d2.2 q c hc]
    unfold X2_timeAt
    rw [at_in (by omega) (by decide), bs, bs, (he.2 c hcn.1).2, show (2 : Int32) = nI 2 from rfl, pk_div (by unfold stp; omega) (by decide) (by decide), show stp tm mk c / 2 = tm c by unfold stp; omega, hmx2]
    exact e31 (tm c) (by omega)
theorem stepC_congr {A : Nat → Nat} {lg lg' : Nat → CH} : ∀ (L : List Nat) (T : AT), (∀ c, c ∈ L → lg' c = lg c) → L.foldl (fun T c => stepC A T (lg' c)) T = L.foldl (fun T c => stepC A T (lg c)) T
  | [], _, _ => rfl
  | c :: t, T, h => by
    show t.foldl (fun T c => stepC A T (lg' c)) (stepC A T (lg' c)) = t.foldl (fun T c => stepC A T (lg c)) (stepC A T (lg c))
    rw [h c (List.mem_cons.mpr (.inl rfl))]
    exact stepC_congr t _ (fun d hd => h d (List.mem_cons.mpr (.inr hd)))
theorem repl_congr {A : Nat → Nat} {lg lg' : Nat → CH} {L : List Nat} (h : ∀ c, c ∈ L → lg' c = lg c) : repl A lg' L = repl A lg L := stepC_congr L T0 h
theorem posL_top {st : Nat → Nat} {c : Nat} : ∀ L : List Nat, (∀ d, d ∈ L → st d < st c) → posL st c L = L.length
  | [], _ => rfl
  | a :: t, h => by
    have ha := h a (List.mem_cons.mpr (.inl rfl))
    show (if st c < st a then 0 else posL st c t + 1) = t.length + 1
    rw [if_neg (by omega), posL_top t (fun d hd => h d (List.mem_cons.mpr (.inr hd)))]
theorem SO.congr {st st' : Nat → Nat} {L : List Nat} (h : SO st L) (e : ∀ c, c ∈ L → st' c = st c) : SO st' L := by
  refine List.Pairwise.imp_of_mem (fun {a b} ha hb q => ?_) h
  rw [e a ha, e b hb]
  exact q
/-- the class after a new change of master m -/
theorem new_ok {S S1 M M1 : St} {m n t : Nat} {lg : Nat → CH} {tm mk bt N A : Nat → Nat} {L L' : List Nat} {F : Nat} {c0 : CH} (hm : m < 2) (hn : n < 40) (hI : IV m S M n lg tm mk bt N A L L' F) (ht : t = mxT bt tm m n + 1) (wc : WC n c0) (s1 : ∀ k, k < 14 ∨ 21 ≤ k → S1 k = S k) (s2 : S1 14 6 = nI (n + 1)) (s3 : ∀ k c, 15 ≤ k → k < 21 → c ≠ n → S1 k c = S k c) (s4 : LEj S1 n c0) (s5 : S1 16 n = nI (2 * t + m)) (m1 : ∀ k, k = 1 ∨ k = 2 ∨ 12 ≤ k ∧ k < 17 → M1 k = M k) (m2 : ∀ j, j ≠ 2 → j ≠ 25 → M1 0 j = M 0 j) (m3 : M1 0 2 = nI (n + 1)) (m4 : ∀ k c, 3 ≤ k → k < 12 → c ≠ n → M1 k c = M k c) (m5 : LMj M1 n c0) (m6 : M1 9 n = nI t) (m7 : M1 10 n = nI m) (m8 : M1 11 n = nI (2 ^ m)) : ∃ S2, X4_learn S1 (nI n) = some S2 ∧ IV m S2 M1 (n + 1) (fu lg n c0) (fu tm n t) (fu mk n m) (fu bt n (2 ^ m)) N A (L ++ [n]) L' F ∧ S2 0 10 = nI (cntF (tTh (stepC A (repl A lg L) c0)) 42) := by
  obtain ⟨⟨a, amk⟩, ⟨b1, b2⟩, ⟨c1, c2⟩, ⟨d1, d2, d3, d4, d5⟩, e, ⟨f1, f2⟩, ⟨g1, g2⟩, ⟨h1, h2, h3, h4⟩⟩ := hI
  have h40 := a.1
  have hmx := mxT_le (m := m) a n (Nat.le_refl n)
  have tb : ∀ q, q < 2 → ((2 ^ m).testBit q = true ↔ q = m) := fun q hq => by
    have x1 : m = 0 ∨ m = 1 := by omega
    have x2 : q = 0 ∨ q = 1 := by omega
    rcases x1 with rfl | rfl <;> rcases x2 with rfl | rfl <;> decide
  have hLn : ∀ d, d ∈ L → d < n := fun d hd => ((d3.2 d).mp hd).1
  have est : ∀ d, d ≠ n → stp (fu tm n t) (fu mk n m) d = stp tm mk d := fun d hd => by
    unfold stp
    rw [fu_n hd, fu_n hd]
  have estn : stp (fu tm n t) (fu mk n m) n = 2 * t + m := by
    unfold stp
    rw [fu_s, fu_s]
  have top : ∀ d, d ∈ L → stp (fu tm n t) (fu mk n m) d < stp (fu tm n t) (fu mk n m) n := fun d hd => by
    have hdn := (d3.2 d).mp hd
    have hge := mxT_ge (bt := bt) (tm := tm) (m := m) n d hdn.1 hdn.2
    have hb := a.2.1 d hdn.1
    rw [est d (by omega), estn]
    unfold stp
    omega
  have pos := posL_top L top
  have ins := insL_end (st := stp (fu tm n t) (fu mk n m)) (c := n) L pos
  have so1 : SO (stp (fu tm n t) (fu mk n m)) L := d3.1.congr (fun d hd => est d (by have := hLn d hd; omega))
  have so2 : SO (stp (fu tm n t) (fu mk n m)) (insL (stp (fu tm n t) (fu mk n m)) n L) := insL_SO L so1 (fun d hd q => by have := top d hd; omega)
  have hW : LOGW (n + 1) (fu lg n c0) (fu tm n t) (fu mk n m) (fu bt n (2 ^ m)) := by
    refine ⟨by omega, fun c hc => ?_, ?_⟩
    · by_cases h : c = n
      · rw [h, fu_s, fu_s, fu_s, fu_s]
        refine ⟨wc, by omega, hm, ?_⟩
        have x1 : m = 0 ∨ m = 1 := by omega
        rcases x1 with rfl | rfl <;> decide
      · rw [fu_n h, fu_n h, fu_n h, fu_n h]
        exact a.2.1 c (by omega)
    · have one : ∀ d, d < n → ¬ 2 * tm d + mk d = 2 * t + m := fun d hd q => by
        have hb := a.2.1 d hd
        have hmd : mk d = m := by omega
        have hk := amk d hd
        rw [hmd] at hk
        have := mxT_ge (bt := bt) (tm := tm) (m := m) n d hd hk
        omega
      intro c d hc hd q
      by_cases h : c = n
      · by_cases h' : d = n
        · rw [h, h']
        · rw [h, fu_s, fu_s, fu_n h', fu_n h'] at q
          exact absurd q.symm (one d (by omega))
      · by_cases h' : d = n
        · rw [h', fu_s, fu_s, fu_n h, fu_n h] at q
          exact absurd q (one c (by omega))
        · rw [fu_n h, fu_n h, fu_n h', fu_n h'] at q
          exact a.2.2 c d (by omega) (by omega) q
  have hlgL : ∀ K : List Nat, (∀ d, d ∈ K → d < n) → repl A (fu lg n c0) K = repl A lg K := fun K hK => repl_congr (fun d hd => fu_n (by have := hK d hd; omega))
  have hLE : ∀ c, c < n + 1 → LEj S1 c (fu lg n c0 c) ∧ S1 16 c = nI (stp (fu tm n t) (fu mk n m) c) := fun c hc => by
    by_cases h : c = n
    · rw [h, fu_s, estn]
      exact ⟨s4, s5⟩
    · rw [fu_n h, est c h, s3 16 c (by decide) (by decide) h]
      refine ⟨?_, (b2 c (by omega)).2⟩
      have q := (b2 c (by omega)).1
      unfold LEj at q ⊢
      rw [s3 15 c (by decide) (by decide) h, s3 17 c (by decide) (by decide) h, s3 18 c (by decide) (by decide) h, s3 19 c (by decide) (by decide) h, s3 20 c (by decide) (by decide) h]
      exact q
  have hLM : LOGM M1 (n + 1) (fu lg n c0) (fu tm n t) (fu mk n m) (fu bt n (2 ^ m)) := by
    refine ⟨m3, fun c hc => ?_⟩
    by_cases h : c = n
    · rw [h, fu_s, fu_s, fu_s, fu_s]
      exact ⟨m5, m6, m7, m8⟩
    · rw [fu_n h, fu_n h, fu_n h, fu_n h, m4 9 c (by decide) (by decide) h, m4 10 c (by decide) (by decide) h, m4 11 c (by decide) (by decide) h]
      refine ⟨?_, (c2 c (by omega)).2⟩
      have q := (c2 c (by omega)).1
      unfold LMj at q ⊢
      rw [m4 3 c (by decide) (by decide) h, m4 4 c (by decide) (by decide) h, m4 5 c (by decide) (by decide) h, m4 6 c (by decide) (by decide) h, m4 7 c (by decide) (by decide) h, m4 8 c (by decide) (by decide) h]
      exact q
  have T1 : TR S1 m n lg bt (stp tm mk) A L := TR.fr (S := S) ⟨d1, d2, d3, d4, d5⟩ (fun k hk => s1 k (by omega))
  obtain ⟨p1, p2, p3, p4, p5⟩ := T1
  have hlen := d3.len h40
  have hlen2 : L.length < 40 := by
    have hk2 : KN (n + 1) (fu bt n (2 ^ m)) m (stp (fu tm n t) (fu mk n m)) (insL (stp (fu tm n t) (fu mk n m)) n L) := ⟨so2, fun c => by
      rw [insL_mem, d3.2 c]
      by_cases h : c = n
      · rw [h, fu_s]
        exact ⟨fun _ => ⟨by omega, (tb m hm).mpr rfl⟩, fun _ => .inl rfl⟩
      · rw [fu_n h]
        exact ⟨fun q => q.elim (fun z => absurd z h) (fun z => ⟨by omega, z.2⟩), fun q => .inr ⟨by omega, q.2⟩⟩⟩
    have := hk2.len (by omega)
    rw [insL_len] at this
    omega
  have bnd : ∀ d, d = n ∨ d ∈ L → d < n + 1 := fun d hd => hd.elim (fun q => by omega) (fun q => by have := hLn d q; omega)
  obtain ⟨S2, r0, r1, r2, r3, r4, r5⟩ := learn_ok (S := S1) (st := stp (fu tm n t) (fu mk n m)) (c := n) (n := n + 1) (lg := fu lg n c0) (N := N) (A := A) p2 hlen2 (fun d hd => ⟨by have := bnd d hd; omega, (hLE d (bnd d hd)).2, by
      have q := hW.2.1 d (bnd d hd)
      have := bnd d hd
      unfold stp
      omega⟩) so2 so1 (fun d hd => ⟨(hLE d (bnd d hd)).1, bnd d hd, (hW.2.1 d (bnd d hd)).1⟩) (f1.fr (s1 22 (by omega)) (s1 23 (by omega))) (by rw [hlgL L hLn]; exact p4) (by rw [hlgL L hLn]; exact p5)
  rw [ins] at r1 r2 r3 so2
  refine ⟨S2, r0, ⟨⟨hW, fun c hc => ?_⟩, ⟨by rw [r4 14 (by decide)]; exact s2, fun c hc => ⟨(hLE c hc).1.fr (fun k hk => r4 k hk), by rw [r4 16 (by decide)]; exact (hLE c hc).2⟩⟩, hLM, ⟨?_, r1, ⟨so2, fun c => ?_⟩, r2, r3⟩, ?_, ⟨(f1.fr (s1 22 (by omega)) (s1 23 (by omega))).fr (r4 22 (by decide)) (r4 23 (by decide)), f2.fr (m1 1 (.inl rfl)) (m1 2 (.inr (.inl rfl)))⟩, ⟨?_, ?_⟩, ⟨h1, ?_, ?_, ?_⟩⟩, ?_⟩
  · by_cases h : c = n
    · rw [h, fu_s, fu_s]
      exact (tb m hm).mpr rfl
    · rw [fu_n h, fu_n h]
      exact amk c (by omega)
  · rw [r5 0 (by decide) (by decide)]; exact p1
  · rw [List.mem_append, List.mem_singleton, d3.2 c]
    by_cases h : c = n
    · rw [h, fu_s]
      exact ⟨fun _ => ⟨by omega, (tb m hm).mpr rfl⟩, fun _ => .inr rfl⟩
    · rw [fu_n h]
      exact ⟨fun q => q.elim (fun z => ⟨by omega, z.2⟩) (fun z => absurd z h), fun q => .inl ⟨by omega, q.2⟩⟩
  · have e' : TR (swS S2) (1 - m) n lg bt (stp tm mk) A L' := e.fr (fun k hk => by
      show S2 (sw k) = S (sw k)
      rw [sw_lo hk, r4 _ (by omega), s1 _ (by omega)])
    obtain ⟨q1, q2, q3, q4, q5⟩ := e'
    have hLn' : ∀ d, d ∈ L' → d < n := fun d hd => ((q3.2 d).mp hd).1
    refine ⟨q1, q2, ⟨q3.1.congr (fun d hd => est d (by have := hLn' d hd; omega)), fun c => ?_⟩, by rw [hlgL L' hLn']; exact q4, by rw [hlgL L' hLn']; exact q5⟩
    rw [q3.2 c]
    by_cases h : c = n
    · rw [h, fu_s]
      refine ⟨fun q => absurd q.1 (Nat.lt_irrefl n), fun q => ?_⟩
      have := (tb (1 - m) (by omega)).mp q.2
      omega
    · rw [fu_n h]
      exact ⟨fun q => ⟨by omega, q.2⟩, fun q => ⟨by omega, q.2⟩⟩
  · rw [r4 25 (by decide), s1 25 (by omega), m1 12 (by omega)]; exact g1
  · rw [r4 26 (by decide), s1 26 (by omega), m1 13 (by omega)]; exact g2
  · rw [r4 27 (by decide), s1 27 (by omega)]; exact h2
  · rw [m2 14 (by decide) (by decide)]; exact h3
  · rw [r4 28 (by decide), r4 29 (by decide), r4 30 (by decide), s1 28 (by omega), s1 29 (by omega), s1 30 (by omega), m1 14 (by omega), m1 15 (by omega), m1 16 (by omega)]; exact h4
  · rw [repl_snoc, hlgL L hLn, fu_s] at r3
    exact r3
