/-! PURE 17: filters made, isWhole, areAlike -/
theorem fapp_ok {S : St} {F : Nat} (k a b : Int32) (h : S 27 4 = nI F) (hF : F < 20) : ∃ S1, X1_append S k a b = some (nI F, S1) ∧ (∀ j, j < 27 ∨ 31 ≤ j → S1 j = S j) ∧ S1 27 4 = nI (F + 1) ∧ (∀ j d, d ≠ F → 28 ≤ j → j < 31 → S1 j d = S j d) ∧ S1 28 F = k ∧ S1 29 F = a ∧ S1 30 F = b := by
  unfold X1_append X1_append_b16 X1_append_b26 X1_append_b36 X1_append_b46
  rw [h, put_in hF (by decide), bs, put_in hF (by decide), bs, put_in hF (by decide), bs]
  generalize hV : up (up (up (up S 28 _) 29 _) 30 _) 27 _ = V
  have v27 : V 27 = upd (S 27) 4 (S 27 4 + 1) := by rw [← hV, up_s, up_n (by decide), up_n (by decide), up_n (by decide)]
  have v28 : V 28 = upd (S 28) F k := by rw [← hV, up_n (by decide), up_n (by decide), up_n (by decide), up_s]
  have v29 : V 29 = upd (S 29) F a := by rw [← hV, up_n (by decide), up_n (by decide), up_s, up_n (by decide)]
  have v30 : V 30 = upd (S 30) F b := by rw [← hV, up_n (by decide), up_s, up_n (by decide), up_n (by decide)]
  refine ⟨V, rfl, fun j hj => by rw [← hV, up_n (by omega), up_n (by omega), up_n (by omega), up_n (by omega)], by rw [v27, upd_s, h, nI_succ], fun j d hd h1 h2 => ?_, by rw [v28, upd_s], by rw [v29, upd_s], by rw [v30, upd_s]⟩
  have : j = 28 ∨ j = 29 ∨ j = 30 := by omega
  rcases this with rfl | rfl | rfl
  · rw [v28, upd_n hd]
  · rw [v29, upd_n hd]
  · rw [v30, upd_n hd]
theorem mapp_ok {M : St} {F : Nat} (k a b : Int32) (h : M 0 14 = nI F) (hF : F < 20) : ∃ M1, X6_makes (up M 0 (upd (M 0) 25 0)) k a b = some (nI F, M1) ∧ (∀ j, j ≠ 0 → j < 14 ∨ 17 ≤ j → M1 j = M j) ∧ (∀ j, j ≠ 14 → j ≠ 25 → M1 0 j = M 0 j) ∧ M1 0 14 = nI (F + 1) ∧ M1 0 25 = 0 ∧ (∀ j d, d ≠ F → 14 ≤ j → j < 17 → M1 j d = M j d) ∧ M1 14 F = k ∧ M1 15 F = a ∧ M1 16 F = b := by
  have h' : (up M 0 (upd (M 0) 25 0)) 0 14 = nI F := by rw [up_s, upd_n (by decide)]; exact h
  unfold X6_makes X6_makes_b10 X6_makes_b20 X6_makes_b30 X6_makes_b40
  simp only [up_n (show (0 : Nat) ≠ 14 by decide), up_n (show (0 : Nat) ≠ 15 by decide), up_n (show (0 : Nat) ≠ 16 by decide)]
  rw [h', if_pos (in20 hF), if_pos (in20 hF), if_pos (in20 hF), clN (by omega)]
  generalize hV : up (up (up (up (up M 0 (upd (M 0) 25 0)) 14 _) 15 _) 16 _) 0 _ = V
  have v0 : V 0 = upd (upd (M 0) 25 0) 14 (nI F + 1) := by rw [← hV, up_s, up_s]
  have v14 : V 14 = upd (M 14) F k := by rw [← hV, up_n (by decide), up_n (by decide), up_n (by decide), up_s, up_n (by decide)]
  have v15 : V 15 = upd (M 15) F a := by rw [← hV, up_n (by decide), up_n (by decide), up_s, up_n (by decide), up_n (by decide)]
  have v16 : V 16 = upd (M 16) F b := by rw [← hV, up_n (by decide), up_s, up_n (by decide), up_n (by decide), up_n (by decide)]
  refine ⟨V, ?_, fun j h0 hj => by rw [← hV, up_n h0, up_n (by omega), up_n (by omega), up_n (by omega), up_n h0], fun j hj h2 => by rw [v0, upd_n hj, upd_n h2], by rw [v0, upd_s, nI_succ], by rw [v0, upd_n (by decide), upd_s], fun j d hd h1 h2 => ?_, by rw [v14, upd_s], by rw [v15, upd_s], by rw [v16, upd_s]⟩
  · rw [v0, upd_s, ← nI_succ, nI_pred]
  · have : j = 14 ∨ j = 15 ∨ j = 16 := by omega
    rcases this with rfl | rfl | rfl
    · rw [v14, upd_n hd]
    · rw [v15, upd_n hd]
    · rw [v16, upd_n hd]
theorem newF_ok {m : Nat} {S M S1 M1 : St} {k a b F : Nat} {n : Nat} {lg : Nat → CH} {tm mk bt N A : Nat → Nat} {L L' : List Nat} (hI : IV m S M n lg tm mk bt N A L L' F) (hF : F < 20) (h1 : k < 6) (h2 : k < 3 → a < 4 ∧ b < 10) (h3 : 3 ≤ k → a < F ∧ b < F) (s1 : ∀ j, j < 27 ∨ 31 ≤ j → S1 j = S j) (s2 : S1 27 4 = nI (F + 1)) (s3 : ∀ j d, d ≠ F → 28 ≤ j → j < 31 → S1 j d = S j d) (s4 : S1 28 F = nI k) (s5 : S1 29 F = nI a) (s6 : S1 30 F = nI b) (m1 : ∀ j, j ≠ 0 → j < 14 ∨ 17 ≤ j → M1 j = M j) (m2 : ∀ j, j ≠ 14 → j ≠ 25 → M1 0 j = M 0 j) (m3 : M1 0 14 = nI (F + 1)) (m5 : ∀ j d, d ≠ F → 14 ≤ j → j < 17 → M1 j d = M j d) (m6 : M1 14 F = nI k) (m7 : M1 15 F = nI a) (m8 : M1 16 F = nI b) : INV m S1 M1 := by
  obtain ⟨x, ⟨b1, b2⟩, ⟨c1, c2⟩, d, e, ⟨f1, f2⟩, ⟨g1, g2⟩, ⟨q1, q2, q3, q4⟩⟩ := hI
  refine ⟨n, lg, tm, mk, bt, N, A, L, L', F + 1, x, ⟨by rw [s1 14 (by omega)]; exact b1, fun c hc => ⟨(b2 c hc).1.fr2 (fun k p q => s1 k (by omega)), by rw [s1 16 (by omega)]; exact (b2 c hc).2⟩⟩, ⟨by rw [m2 2 (by decide) (by decide)]; exact c1, fun c hc => ?_⟩, d.fr (fun k hk => s1 k (by omega)), e.fr (fun k hk => ?_), ⟨f1.fr (s1 22 (by omega)) (s1 23 (by omega)), f2.fr (m1 1 (by decide) (by omega)) (m1 2 (by decide) (by omega))⟩, ⟨?_, ?_⟩, ⟨by omega, s2, m3, fun j hj => ?_⟩⟩
  · have q := (c2 c hc).1
    unfold LMj at q ⊢
    rw [m1 3 (by decide) (by omega), m1 4 (by decide) (by omega), m1 5 (by decide) (by omega), m1 6 (by decide) (by omega), m1 7 (by decide) (by omega), m1 8 (by decide) (by omega), m1 9 (by decide) (by omega), m1 10 (by decide) (by omega), m1 11 (by decide) (by omega)]
    exact ⟨q, (c2 c hc).2⟩
  · show S1 (sw k) = S (sw k)
    rw [sw_lo hk]
    exact s1 _ (by omega)
  · rw [s1 25 (by omega), m1 12 (by decide) (by omega)]; exact g1
  · rw [s1 26 (by omega), m1 13 (by decide) (by omega)]; exact g2
  · by_cases h : j = F
    · rw [h, s4, s5, s6, m6, m7, m8]
      exact ⟨rfl, rfl, rfl, k, a, b, rfl, rfl, rfl, h1, h2, h3⟩
    · rw [s3 28 j h (by decide) (by decide), s3 29 j h (by decide) (by decide), s3 30 j h (by decide) (by decide), m5 14 j h (by decide) (by decide), m5 15 j h (by decide) (by decide), m5 16 j h (by decide) (by decide)]
      exact q4 j (by omega)
def tco (k : Nat) : Nat := if k = 2 then 1 else if k = 3 then 2 else k
def SAMT (m : Nat) (a : Option (Nat × Int32 × St)) (b : Option (Int32 × St)) : Prop := ∃ k v S' w M', a = some (k, v, S') ∧ b = some (w, M') ∧ INV m S' M' ∧ (k = 0 ∨ k = 2 ∨ k = 3) ∧ M' 0 25 = nI (tco k) ∧ (k = 0 → v = w)
theorem samt_err {m k : Nat} {S M : St} (h : INV m S M) (hk : k = 0 ∨ k = 2 ∨ k = 3) (h0 : k ≠ 0) {w : Int32} : SAMT m (some (k, 0, S)) (some (w, up M 0 (upd (M 0) 25 (nI (tco k))))) := ⟨k, 0, S, w, _, rfl, rfl, h.qm (qm25 M _), hk, by rw [up_s, upd_s], fun q => absurd q h0⟩
theorem test_no {M : St} {x1 x2 x3 : Int32} {k : Nat} (h0 : k ≠ 0) (hk : k < 4) : X6_test_b59 M x1 x2 x3 (nI k) = some (0, up M 0 (upd (M 0) 25 (nI k))) := by
  unfold X6_test_b59 X6_test_b62 X6_test_b80
  rw [up_s, upd_s, if_neg (nkp h0 hk)]
theorem join_no {M : St} {x1 x2 x3 : Int32} {k : Nat} (h0 : k ≠ 0) (hk : k < 4) : X6_join_b48 M x1 x2 x3 (nI k) = some (0, up M 0 (upd (M 0) 25 (nI k))) := by
  unfold X6_join_b48 X6_join_b51 X6_join_b71
  rw [up_s, upd_s, if_neg (nkp h0 hk)]
theorem ffull {m : Nat} {S M : St} {n : Nat} {lg : Nat → CH} {tm mk bt N A : Nat → Nat} {L L' : List Nat} {F : Nat} (hI : IV m S M n lg tm mk bt N A L L' F) : (F < 20 ∧ X5_checkRoomForFilter S = some 0 ∧ ¬ M 0 14 = 20) ∨ (X5_checkRoomForFilter S = some 3 ∧ M 0 14 = 20) := by
  obtain ⟨_, _, _, _, _, _, _, ⟨h1, h2, h3, _⟩⟩ := hI
  unfold X5_checkRoomForFilter
  rw [h2, h3]
  rcases Nat.lt_or_ge F 20 with h | h
  · left
    refine ⟨h, ?_, fun q => ?_⟩
    · rw [if_pos (show nI F < 20 from nI_lt (b := 20) h (by decide))]
    · have := (nI_eq (a := F) (b := 20) (by omega) (by decide)).mp q
      omega
  · right
    have e : F = 20 := by omega
    rw [e]
    exact ⟨rfl, rfl⟩
theorem api_test {m : Nat} {S M : St} (h : INV m S M) (x1 x2 x3 : Int32) : SAMT m (X5_test S x1 x2 x3) (X6_test M x1 x2 x3) := by
  have hh := h
  obtain ⟨n, lg, tm, mk, bt, N, A, L, L', F, hI⟩ := hh
  have bad : X6_test_b33 M x1 x2 x3 0 = some (0, up M 0 (upd (M 0) 25 (nI (tco 2)))) := by
    unfold X6_test_b33
    rw [if_pos rfl]
    exact test_no (k := 1) (by decide) (by decide)
  unfold X5_test X6_test X6_test_b32
  rcases arg_both x1 0 2 with ⟨u1, u2, e1, e2⟩ | ⟨e1, e2⟩
  · rw [e1, e2, bs, bs, if_pos rfl, if_neg one0]
    rcases arg_both x2 0 3 with ⟨u3, u4, e3, e4⟩ | ⟨e3, e4⟩
    · rw [e3, e4, bs, bs, if_pos rfl, if_neg one0]
      rcases arg_both x3 0 9 with ⟨u5, u6, e5, e6⟩ | ⟨e5, e6⟩
      · rw [e5, e6, bs, bs, if_pos rfl, if_neg one0]
        unfold X6_test_b33
        rw [if_neg one0]
        rcases ffull hI with ⟨hF, e7, e8⟩ | ⟨e7, e8⟩
        · obtain ⟨k, hk, rfl⟩ := i_nat (hi := 2) (n := 2) rfl u1 u2
          obtain ⟨a, ha, rfl⟩ := i_nat (hi := 3) (n := 3) rfl u3 u4
          obtain ⟨b, hb, rfl⟩ := i_nat (hi := 9) (n := 9) rfl u5 u6
          obtain ⟨S1, f0, f1, f2, f3, f4, f5, f6⟩ := fapp_ok (nI k) (nI a) (nI b) hI.2.2.2.2.2.2.2.2.1 hF
          obtain ⟨M1, g0, g1, g2, g3, g4, g5, g6, g7, g8⟩ := mapp_ok (nI k) (nI a) (nI b) hI.2.2.2.2.2.2.2.2.2.1 hF
          unfold X5_test_b33 X6_test_b59 X6_test_b62 X6_test_b80
          rw [e7, bs, if_pos rfl, f0, bs, if_neg e8, e25, if_pos (by decide), g0, bs]
          exact ⟨0, _, S1, _, M1, rfl, rfl, newF_ok hI hF (by omega) (fun _ => ⟨by omega, by omega⟩) (fun q => by omega) f1 f2 f3 f4 f5 f6 g1 g2 g3 g5 g6 g7 g8, .inl rfl, g4, fun _ => rfl⟩
        · rw [e7, bs, if_neg (by decide), if_pos e8, show (2 : Int32) = nI (tco 3) from rfl, test_no (by decide) (by decide)]
          exact samt_err h (.inr (.inr rfl)) (by decide)
      · rw [e5, e6, bs, bs, if_neg (by decide), if_pos rfl, bad]
        exact samt_err h (.inr (.inl rfl)) (by decide)
    · rw [e3, e4, bs, bs, if_neg (by decide), if_pos rfl, bad]
      exact samt_err h (.inr (.inl rfl)) (by decide)
  · rw [e1, e2, bs, bs, if_neg (by decide), if_pos rfl, bad]
    exact samt_err h (.inr (.inl rfl)) (by decide)
theorem isFilter_ok {M : St} {F : Nat} (h : M 0 14 = nI F) (x : Int32) : (X6_isIn x 0 (nI F - 1) = some 1 → X6_isFilter M x = some 1) ∧ (X6_isIn x 0 (nI F - 1) = some 0 → X6_isFilter M x = some 0) := by
  unfold X6_isFilter
  rw [h]
  refine ⟨fun e => ?_, fun e => ?_⟩
  · rw [e, bs, if_pos (by decide)]
  · rw [e, bs, if_pos (by decide)]
theorem sames_err {m k : Nat} {S M : St} (h : INV m S M) (hk : k < 4) (h0 : k ≠ 0) {w : Int32} : SAME m (some (k, 0, S)) (some (w, up M 0 (upd (M 0) 25 (nI k)))) := same_err h (QM.rfl' M) hk h0
theorem api_join {m : Nat} {S M : St} (h : INV m S M) (x1 x2 x3 : Int32) : SAME m (X5_join S x1 x2 x3) (X6_join M x1 x2 x3) := by
  have hh := h
  obtain ⟨n, lg, tm, mk, bt, N, A, L, L', F, hI⟩ := hh
  have h1 := hI.2.2.2.2.2.2.2.1
  have h2 := hI.2.2.2.2.2.2.2.2.1
  have h3 := hI.2.2.2.2.2.2.2.2.2.1
  unfold X5_join X6_join X6_join_b17
  rw [h2]
  rcases ix_both x2 (n := F) (by omega) with ⟨a, ha, rfl, e1, e2⟩ | ⟨_, e1, e2⟩
  · rw [e1, (isFilter_ok h3 _).1 e2, bs, bs, if_pos rfl, if_neg one0]
    rcases ix_both x3 (n := F) (by omega) with ⟨b, hb, rfl, e3, e4⟩ | ⟨_, e3, e4⟩
    · rw [e3, (isFilter_ok h3 _).1 e4, bs, bs, if_pos rfl, if_neg one0]
      rcases arg_both x1 0 2 with ⟨u1, u2, e5, e6⟩ | ⟨e5, e6⟩
      · rw [e5, e6, bs, bs, if_pos rfl, if_neg one0]
        rcases ffull hI with ⟨hF, e7, e8⟩ | ⟨e7, e8⟩
        · obtain ⟨k, hk, rfl⟩ := i_nat (hi := 2) (n := 2) rfl u1 u2
          have e3k : 3 + nI k = nI (3 + k) := nI_add 3 k
          obtain ⟨S1, f0, f1, f2, f3, f4, f5, f6⟩ := fapp_ok (nI (3 + k)) (nI a) (nI b) h2 hF
          obtain ⟨M1, g0, g1, g2, g3, g4, g5, g6, g7, g8⟩ := mapp_ok (nI (3 + k)) (nI a) (nI b) h3 hF
          unfold X5_join_b44 X6_join_b48 X6_join_b51 X6_join_b71
          rw [e7, bs, if_pos rfl, e3k, f0, bs, if_neg e8, e25, if_pos (by decide), g0, bs]
          exact ⟨0, _, S1, _, M1, rfl, rfl, newF_ok hI hF (by omega) (fun q => by omega) (fun _ => ⟨ha, hb⟩) f1 f2 f3 f4 f5 f6 g1 g2 g3 g5 g6 g7 g8, by decide, g4, fun _ => rfl⟩
        · rw [e7, bs, if_neg (by decide), if_pos e8, show (X6_join_b48 M x1 (nI a) (nI b) 3) = X6_join_b48 M x1 (nI a) (nI b) (nI 3) from rfl, join_no (by decide) (by decide)]
          exact sames_err h (by decide) (by decide)
      · rw [e5, e6, bs, bs, if_neg (by decide), if_pos rfl, show (2 : Int32) = nI 2 from rfl, join_no (by decide) (by decide)]
        exact sames_err h (by decide) (by decide)
    · rw [e3, (isFilter_ok h3 _).2 e4, bs, bs, if_neg (by decide), if_pos rfl, show (1 : Int32) = nI 1 from rfl, join_no (by decide) (by decide)]
      exact sames_err h (by decide) (by decide)
  · rw [e1, (isFilter_ok h3 _).2 e2, bs, bs, if_neg (by decide), if_pos rfl, show (1 : Int32) = nI 1 from rfl, join_no (by decide) (by decide)]
    exact sames_err h (by decide) (by decide)
