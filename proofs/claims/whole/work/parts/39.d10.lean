/-! PURE 10: arguments, and what holds between two calls -/
theorem i_cases (x lo hi : Int32) : (¬ x < lo ∧ x ≤ hi ∧ ¬ hi < x) ∨ (x < lo) ∨ (¬ x < lo ∧ hi < x ∧ ¬ x ≤ hi) := by
  simp only [Int32.lt_iff_toInt_lt, Int32.le_iff_toInt_le]
  omega
theorem arg_both (x lo hi : Int32) : (¬ x < lo ∧ x ≤ hi ∧ X5_checkArgument x lo hi = some 0 ∧ X6_isIn x lo hi = some 1) ∨ (X5_checkArgument x lo hi = some 2 ∧ X6_isIn x lo hi = some 0) := by
  unfold X5_checkArgument X5_checkArgument_b10 X6_isIn X6_isIn_b14 X6_isIn_b15
  rcases i_cases x lo hi with ⟨a, b, c⟩ | a | ⟨a, b, c⟩
  · left
    refine ⟨a, b, ?_, ?_⟩
    · rw [if_neg a, if_pos b]
    · rw [if_neg a, if_neg c]
      rfl
  · right
    refine ⟨?_, ?_⟩
    · rw [if_pos a]
    · rw [if_pos a]
      rfl
  · right
    refine ⟨?_, ?_⟩
    · rw [if_neg a, if_neg c]
    · rw [if_neg a, if_pos b]
      rfl
theorem ix_both (x : Int32) {n : Nat} (hn : n < 1000) : (∃ j, j < n ∧ x = nI j ∧ X5_checkIndex x (nI n) = some 0 ∧ X6_isIn x 0 (nI n - 1) = some 1) ∨ ((∀ j, j < n → x ≠ nI j) ∧ X5_checkIndex x (nI n) = some 1 ∧ X6_isIn x 0 (nI n - 1) = some 0) := by
  have t1 : (nI n - 1).toInt = (n : Int) - 1 := pk_sub_toInt (a := n) (b := 1) (by omega) (by decide)
  have t2 : (nI n).toInt = (n : Int) := nI_toInt (by omega)
  unfold X5_checkIndex X5_checkIndex_b9 X6_isIn X6_isIn_b14 X6_isIn_b15
  rcases pk_ix x (n := n) (by omega) with h | h | ⟨j, hj, rfl⟩
  · right
    refine ⟨fun j hj q => ?_, ?_, ?_⟩
    · rw [q] at h
      exact nI_pos (by omega) h
    · rw [if_pos h]
    · rw [if_pos h]
      rfl
  · right
    have h0 : ¬ x < 0 := by
      rw [Int32.le_iff_toInt_le, t2] at h
      rw [Int32.lt_iff_toInt_lt]
      have : (0 : Int32).toInt = 0 := rfl
      omega
    have h1 : ¬ x < nI n := by
      rw [Int32.le_iff_toInt_le] at h
      rw [Int32.lt_iff_toInt_lt]
      omega
    have h2 : nI n - 1 < x := by
      rw [Int32.le_iff_toInt_le, t2] at h
      rw [Int32.lt_iff_toInt_lt, t1]
      omega
    refine ⟨fun j hj q => ?_, ?_, ?_⟩
    · rw [q] at h1
      exact h1 (nI_lt hj (by omega))
    · rw [if_neg h0, if_neg h1]
    · rw [if_neg h0, if_pos h2]
      rfl
  · left
    have h2 : ¬ nI n - 1 < nI j := by
      have t3 : (nI j).toInt = (j : Int) := nI_toInt (by omega)
      rw [Int32.lt_iff_toInt_lt, t1, t3]
      omega
    refine ⟨j, hj, rfl, ?_, ?_⟩
    · rw [if_neg (nI_pos (by omega)), if_pos (nI_lt hj (by omega))]
    · rw [if_neg (nI_pos (by omega)), if_neg h2]
      rfl
theorem ix_2 (x : Int32) : (∃ j, j < 2 ∧ x = nI j ∧ X5_checkIndex x 2 = some 0 ∧ X6_isIn x 0 1 = some 1) ∨ ((∀ j, j < 2 → x ≠ nI j) ∧ X5_checkIndex x 2 = some 1 ∧ X6_isIn x 0 1 = some 0) := ix_both x (n := 2) (by decide)
theorem ix_3 (x : Int32) : (∃ j, j < 3 ∧ x = nI j ∧ X5_checkIndex x 3 = some 0 ∧ X6_isIn x 0 2 = some 1) ∨ ((∀ j, j < 3 → x ≠ nI j) ∧ X5_checkIndex x 3 = some 1 ∧ X6_isIn x 0 2 = some 0) := ix_both x (n := 3) (by decide)
theorem ix_4 (x : Int32) : (∃ j, j < 4 ∧ x = nI j ∧ X5_checkIndex x 4 = some 0 ∧ X6_isIn x 0 3 = some 1) ∨ ((∀ j, j < 4 → x ≠ nI j) ∧ X5_checkIndex x 4 = some 1 ∧ X6_isIn x 0 3 = some 0) := ix_both x (n := 4) (by decide)
theorem ix_42 (x : Int32) : (∃ j, j < 42 ∧ x = nI j ∧ X5_checkIndex x 42 = some 0 ∧ X6_isIn x 0 41 = some 1) ∨ ((∀ j, j < 42 → x ≠ nI j) ∧ X5_checkIndex x 42 = some 1 ∧ X6_isIn x 0 41 = some 0) := ix_both x (n := 42) (by decide)
theorem i_nat {x hi : Int32} {n : Nat} (hM : hi.toInt = n) (a : ¬ x < 0) (b : x ≤ hi) : ∃ j, j ≤ n ∧ x = nI j := nI_of2 hM a b
theorem i_opt {x : Int32} (a : ¬ x < -1) (b : x ≤ 9) : ∃ o : Option Nat, (∀ k, o = some k → k < 10) ∧ x = oI o := by
  by_cases h : x < 0
  · refine ⟨none, (fun k q => nomatch q), ?_⟩
    apply Int32.toInt_inj.mp
    rw [Int32.lt_iff_toInt_lt] at a h
    have e1 : (-1 : Int32).toInt = -1 := rfl
    have e2 : (0 : Int32).toInt = 0 := rfl
    show x.toInt = (-1 : Int32).toInt
    omega
  · obtain ⟨j, hj, rfl⟩ := i_nat (hi := 9) (n := 9) rfl h b
    exact ⟨some j, fun k q => by rw [← Option.some.inj q]; omega, rfl⟩
/-- one master's side of the class -/
def TR (S : St) (m n : Nat) (lg : Nat → CH) (bt st A : Nat → Nat) (L : List Nat) : Prop := S 0 0 = nI m ∧ KE S L ∧ KN n bt m st L ∧ RE S (repl A lg L) ∧ RC S (repl A lg L)
def RR (S M : St) : Prop := (∀ k, k < 126 → S 25 k = M 12 k ∧ (M 12 k = -1 ∨ M 12 k = 0 ∨ M 12 k = 1)) ∧ ∀ k, k < 42 → S 26 k = M 13 k
def FF (S M : St) (F : Nat) : Prop := F ≤ 20 ∧ S 27 4 = nI F ∧ M 0 14 = nI F ∧ ∀ j, j < F → S 28 j = M 14 j ∧ S 29 j = M 15 j ∧ S 30 j = M 16 j ∧ ∃ k a b : Nat, M 14 j = nI k ∧ M 15 j = nI a ∧ M 16 j = nI b ∧ k < 6 ∧ (k < 3 → a < 4 ∧ b < 10) ∧ (3 ≤ k → a < j ∧ b < j)
def LOGE (S : St) (n : Nat) (lg : Nat → CH) (st : Nat → Nat) : Prop := S 14 6 = nI n ∧ ∀ c, c < n → LEj S c (lg c) ∧ S 16 c = nI (st c)
def MKB (n : Nat) (mk bt : Nat → Nat) : Prop := ∀ c, c < n → (bt c).testBit (mk c) = true
def IV (m : Nat) (S M : St) (n : Nat) (lg : Nat → CH) (tm mk bt N A : Nat → Nat) (L L' : List Nat) (F : Nat) : Prop := (LOGW n lg tm mk bt ∧ MKB n mk bt) ∧ LOGE S n lg (stp tm mk) ∧ LOGM M n lg tm mk bt ∧ TR S m n lg bt (stp tm mk) A L ∧ TR (swS S) (1 - m) n lg bt (stp tm mk) A L' ∧ (RCL S 22 23 N A ∧ RCL M 1 2 N A) ∧ RR S M ∧ FF S M F
def INV (m : Nat) (S M : St) : Prop := ∃ n lg tm mk bt N A L L' F, IV m S M n lg tm mk bt N A L L' F
theorem blt_t {a b : Nat} (h : a < b) : Nat.blt a b = true := Nat.ble_eq_true_of_le h
theorem blt_f {a b : Nat} (h : b ≤ a) : Nat.blt a b = false := by
  cases hb : Nat.blt a b
  · rfl
  · exact absurd (Nat.le_of_ble_eq_true (show Nat.ble (a + 1) b = true from hb)) (by omega)
theorem sw_lo {k : Nat} (h : k < 7) : sw k = k + 7 := by
  unfold sw
  rw [blt_t h]
  rfl
theorem sw_mid {k : Nat} (h : 7 ≤ k) (h2 : k < 14) : sw k = k - 7 := by
  unfold sw
  rw [blt_f h, blt_t h2]
  rfl
theorem sw_hi {k : Nat} (h : 14 ≤ k) : sw k = k := by
  unfold sw
  rw [blt_f (show 7 ≤ k by omega), blt_f h]
  rfl
theorem swS_hi {S : St} {k : Nat} (h : 14 ≤ k) : swS S k = S k := congrArg S (sw_hi h)
theorem swS_swS (S : St) : swS (swS S) = S := by
  funext k
  show S (sw (sw k)) = S k
  rcases Nat.lt_or_ge k 7 with h | h
  · rw [sw_lo h, sw_mid (by omega) (by omega), Nat.add_sub_cancel]
  · rcases Nat.lt_or_ge k 14 with h2 | h2
    · rw [sw_mid h h2, sw_lo (by omega), Nat.sub_add_cancel h]
    · rw [sw_hi h2, sw_hi h2]
theorem LEj.fr2 {S U : St} {j : Nat} {c : CH} (h : LEj S j c) (hf : ∀ k, 15 ≤ k → k < 21 → U k = S k) : LEj U j c := by
  unfold LEj
  rw [hf 15 (by decide) (by decide), hf 17 (by decide) (by decide), hf 18 (by decide) (by decide), hf 19 (by decide) (by decide), hf 20 (by decide) (by decide)]
  exact h
theorem LMj.fr2 {S U : St} {j : Nat} {c : CH} (h : LMj S j c) (hf : ∀ k, 1 ≤ k → k < 17 → U k = S k) : LMj U j c := by
  unfold LMj
  rw [hf 3 (by decide) (by decide), hf 4 (by decide) (by decide), hf 5 (by decide) (by decide), hf 6 (by decide) (by decide), hf 7 (by decide) (by decide), hf 8 (by decide) (by decide)]
  exact h
theorem TR.fr {S U : St} {m n : Nat} {lg : Nat → CH} {bt st A : Nat → Nat} {L : List Nat} (h : TR S m n lg bt st A L) (hf : ∀ k, k < 7 → U k = S k) : TR U m n lg bt st A L := by
  obtain ⟨a, ⟨b, b'⟩, c, ⟨d2, d3, d4, d5, d6⟩, e⟩ := h
  refine ⟨?_, ⟨?_, fun i c q => ?_⟩, c, ⟨fun k hk => ?_, fun k hk q => ?_, fun k hk => ?_, fun k hk => ?_, fun k hk => ?_⟩, ?_⟩
  · rw [hf 0 (by decide)]; exact a
  · rw [hf 0 (by decide)]; exact b
  · rw [hf 1 (by decide)]; exact b' i c q
  · rw [hf 2 (by decide)]; exact d2 k hk
  · rw [hf 3 (by decide)]; exact d3 k hk q
  · rw [hf 4 (by decide)]; exact d4 k hk
  · rw [hf 5 (by decide)]; exact d5 k hk
  · rw [hf 6 (by decide)]; exact d6 k hk
  · unfold RC
    rw [hf 0 (by decide)]
    exact e
/-- what a question may change -/
def QM (M M' : St) : Prop := (∀ k, 1 ≤ k → k < 17 → M' k = M k) ∧ ∀ j, j ≠ 25 → M' 0 j = M 0 j
def QE (S S' : St) : Prop := ∀ k, k ≠ 31 → S' k = S k
theorem QM.rfl' (M : St) : QM M M := ⟨fun _ _ _ => rfl, fun _ _ => rfl⟩
theorem QM.trans {M M1 M2 : St} (h : QM M M1) (g : QM M1 M2) : QM M M2 := ⟨fun k a b => (g.1 k a b).trans (h.1 k a b), fun j a => (g.2 j a).trans (h.2 j a)⟩
theorem FM.qm {M M1 : St} (h : FM M M1) : QM M M1 := ⟨fun k a b => h k (by omega), fun j _ => by rw [h 0 (by omega)]⟩
theorem qm25 (M : St) (v : Int32) : QM M (up M 0 (upd (M 0) 25 v)) := ⟨fun k a _ => up_n (by omega), fun j hj => by rw [up_s, upd_n hj]⟩
theorem IV.q {m : Nat} {S M S' M' : St} {n : Nat} {lg : Nat → CH} {tm mk bt N A : Nat → Nat} {L L' : List Nat} {F : Nat} (h : IV m S M n lg tm mk bt N A L L' F) (hS : QE S S') (hM : QM M M') : IV m S' M' n lg tm mk bt N A L L' F := by
  obtain ⟨a, ⟨b1, b2⟩, ⟨c1, c2⟩, d, e, ⟨f1, f2⟩, ⟨g1, g2⟩, ⟨h1, h2, h3, h4⟩⟩ := h
  refine ⟨a, ⟨?_, fun c hc => ⟨(b2 c hc).1.fr2 (fun k p q => hS k (by omega)), ?_⟩⟩, ⟨?_, fun c hc => ⟨(c2 c hc).1.fr2 hM.1, ?_⟩⟩, d.fr (fun k hk => hS k (by omega)), e.fr (fun k hk => ?_), ⟨f1.fr (hS 22 (by decide)) (hS 23 (by decide)), f2.fr (hM.1 1 (by decide) (by decide)) (hM.1 2 (by decide) (by decide))⟩, ⟨?_, ?_⟩, ⟨h1, ?_, ?_, ?_⟩⟩
  · rw [hS 14 (by decide)]; exact b1
  · rw [hS 16 (by decide)]; exact (b2 c hc).2
  · rw [hM.2 2 (by decide)]; exact c1
  · rw [hM.1 9 (by decide) (by decide), hM.1 10 (by decide) (by decide), hM.1 11 (by decide) (by decide)]; exact (c2 c hc).2
  · show S' (sw k) = S (sw k)
    rw [sw_lo hk]
    exact hS _ (by omega)
  · rw [hS 25 (by decide), hM.1 12 (by decide) (by decide)]; exact g1
  · rw [hS 26 (by decide), hM.1 13 (by decide) (by decide)]; exact g2
  · rw [hS 27 (by decide)]; exact h2
  · rw [hM.2 14 (by decide)]; exact h3
  · rw [hS 28 (by decide), hS 29 (by decide), hS 30 (by decide), hM.1 14 (by decide) (by decide), hM.1 15 (by decide) (by decide), hM.1 16 (by decide) (by decide)]; exact h4
theorem IV.swap {m : Nat} {S M : St} {n : Nat} {lg : Nat → CH} {tm mk bt N A : Nat → Nat} {L L' : List Nat} {F : Nat} (hm : m < 2) (h : IV m S M n lg tm mk bt N A L L' F) : IV (1 - m) (swS S) M n lg tm mk bt N A L' L F := by
  obtain ⟨a, ⟨b1, b2⟩, c, d, e, ⟨f1, f2⟩, ⟨g1, g2⟩, ⟨h1, h2, h3, h4⟩⟩ := h
  refine ⟨a, ⟨?_, fun c hc => ⟨(b2 c hc).1.fr2 (fun k p q => swS_hi (by omega)), ?_⟩⟩, c, e, ?_, ⟨f1.fr (swS_hi (by decide)) (swS_hi (by decide)), f2⟩, ⟨?_, ?_⟩, ⟨h1, ?_, h3, ?_⟩⟩
  · rw [swS_hi (by decide)]; exact b1
  · rw [swS_hi (by decide)]; exact (b2 c hc).2
  · rw [swS_swS, show 1 - (1 - m) = m by omega]; exact d
  · rw [swS_hi (by decide)]; exact g1
  · rw [swS_hi (by decide)]; exact g2
  · rw [swS_hi (by decide)]; exact h2
  · rw [swS_hi (by decide), swS_hi (by decide), swS_hi (by decide)]; exact h4
theorem INV.swap {m : Nat} {S M : St} (hm : m < 2) (h : INV m S M) : INV (1 - m) (swS S) M := by
  obtain ⟨n, lg, tm, mk, bt, N, A, L, L', F, h⟩ := h
  exact ⟨n, lg, tm, mk, bt, N, A, L', L, F, h.swap hm⟩
/-- the entry that a call names -/
theorem mst_ok {m : Nat} (hm : m < 2) : X6_isMaster (nI m) = some 1 := by
  have : m = 0 ∨ m = 1 := by omega
  rcases this with rfl | rfl <;> decide
theorem mst_no {x : Int32} (h : ∀ j, j < 2 → x ≠ nI j) : X6_isMaster x = some 0 := by
  unfold X6_isMaster
  rcases ix_2 x with ⟨j, hj, e, _⟩ | ⟨_, _, e⟩
  · exact absurd e (h j hj)
  · rw [e]
    rfl
theorem treeOf_cases (S : St) (x : Int32) : (x = nI 0 ∧ X5_treeOf S x = some (0, false)) ∨ (x = nI 1 ∧ X5_treeOf S x = some (0, true)) ∨ ((∀ j, j < 2 → x ≠ nI j) ∧ X5_treeOf S x = some (1, false)) := by
  unfold X5_treeOf
  rcases ix_2 x with ⟨j, hj, e, h, _⟩ | ⟨hn, h, _⟩
  · have : j = 0 ∨ j = 1 := by omega
    rcases this with rfl | rfl
    · left
      rw [h, bs, e]
      exact ⟨rfl, rfl⟩
    · right; left
      rw [h, bs, e]
      exact ⟨rfl, rfl⟩
  · right; right
    rw [h, bs]
    exact ⟨hn, rfl⟩
theorem isHere_no {M : St} {x y : Int32} (h : ∀ j, j < 2 → x ≠ nI j) : X6_isHere M x y = some (0, M) := by
  unfold X6_isHere
  rw [mst_no h, bs, if_pos rfl]
theorem has_off {S : St} {T : AT} {x : Int32} (h2 : E2 S T) (h : ∀ k, k < 42 → x = nI k → tTh T k = false) : X4_has S x = some 0 := by
  rcases pk_ix x (n := 42) (by decide) with q | q | ⟨j, hj, rfl⟩
  · unfold X4_has X4_has_b23 X4_has_b24
    rw [if_pos q]
    rfl
  · unfold X4_has X4_has_b23 X4_has_b24
    have q' : (42 : Int32) ≤ x := q
    by_cases h0 : x < 0
    · rw [if_pos h0]
      rfl
    · rw [if_neg h0, if_pos q']
      rfl
  · rw [has_ok h2 hj, h j hj rfl]
    rfl
theorem isHere_ok {S M : St} {m n : Nat} {lg : Nat → CH} {tm mk bt N A : Nat → Nat} {L L' : List Nat} {F : Nat} (hm : m < 2) (hI : IV m S M n lg tm mk bt N A L L' F) (x : Int32) : ∃ M1, RM M1 (repl A lg L) ∧ FM M M1 ∧ ((∃ k, k < 42 ∧ x = nI k ∧ tTh (repl A lg L) k = true ∧ X6_isHere M (nI m) x = some (1, M1) ∧ X4_has S x = some 1 ∧ X5_checkEntry S x = some 0) ∨ ((∀ k, k < 42 → x = nI k → tTh (repl A lg L) k = false) ∧ X6_isHere M (nI m) x = some (0, M1) ∧ X4_has S x = some 0 ∧ X5_checkEntry S x = some 1)) := by
  obtain ⟨⟨a, _⟩, _, c, ⟨_, _, d3, d4, _⟩, _, ⟨_, f2⟩, _, _⟩ := hI
  obtain ⟨M1, e, r1, r2⟩ := grows_ok c a hm d3 f2
  refine ⟨M1, r1, r2, ?_⟩
  have no : X4_has S x = some 0 → X5_checkEntry S x = some 1 := fun q => by
    unfold X5_checkEntry
    rw [q, bs, if_pos rfl]
  have yes : X4_has S x = some 1 → X5_checkEntry S x = some 0 := fun q => by
    unfold X5_checkEntry
    rw [q, bs, if_neg (by decide)]
  unfold X6_isHere X6_isHere_b14 X6_isHere_b37 X6_isHere_b38
  rw [mst_ok hm, bs, if_neg (by decide), e, bs]
  rcases ix_42 x with ⟨j, hj, rfl, _, h⟩ | ⟨hn, _, h⟩
  · rw [h, bs, if_neg (by decide), if_pos (in42 hj), cl42 hj, r1.1 j hj]
    cases ht : tTh (repl A lg L) j
    · right
      have hh : X4_has S (nI j) = some 0 := by rw [has_ok d4.1 hj, ht]; rfl
      exact ⟨fun k hk q => by rw [(nI_eq (by omega) (by omega)).mp q] at ht; exact ht, rfl, hh, no hh⟩
    · left
      have hh : X4_has S (nI j) = some 1 := by rw [has_ok d4.1 hj, ht]; rfl
      exact ⟨j, hj, rfl, ht, rfl, hh, yes hh⟩
  · right
    rw [h, bs, if_pos rfl]
    have hh := has_off d4.1 (fun k hk q => absurd q (hn k hk))
    exact ⟨fun k hk q => absurd q (hn k hk), rfl, hh, no hh⟩
