/-! PURE 10: arguments, and what holds between two calls -/
theorem i_cases (x lo hi : Int32) : (¬ x < lo ∧ x ≤ hi ∧ ¬ hi < x) ∨ (x < lo) ∨ (¬ x < lo ∧ hi < x ∧ ¬ x ≤ hi) := by
  simp only [Int32.lt_iff_toInt_lt, Int32.le_iff_toInt_le]
  omega
theorem i_nat {x hi : Int32} {n : Nat} (hM : hi.toInt = n) (a : ¬ x < 0) (b : x ≤ hi) : ∃ j, j ≤ n ∧ x = nI j := nI_of2 hM a b
theorem i_opt {x : Int32} (a : ¬ x < -1) (b : x ≤ 9) : ∃ o : Option Nat, (∀ k, o = some k → k < 10) ∧ x = oI o := by
  by_cases h : x < 0
  · refine ⟨none, (fun k q => nomatch q), ?_⟩
    apply Int32.toInt_inj.mp
    rw [Int32.lt_iff_toInt_lt] at a h
    have e1 : (-1 : Int32).toInt = -1 := rfl
    have e2 : (0 : Int32).toInt = 0 := rfl
    show x.toInt = (-1 : Int32).toInt
    omega
  · obtain ⟨j, hj, rfl⟩ := i_nat (hi := 9) (n := 9) rfl h b
    exact ⟨some j, fun k q => by rw [← Option.some.inj q]; omega, rfl⟩
/-- one master's side of the class -/
def TR (S : St) (m n : Nat) (lg : Nat → CH) (bt st A : Nat → Nat) (L : List Nat) : Prop := S 0 0 = nI m ∧ KE S L ∧ KN n bt m st L ∧ RE S (repl A lg L) ∧ RC S (repl A lg L)
def LOGE (S : St) (n : Nat) (lg : Nat → CH) (st : Nat → Nat) : Prop := S 14 6 = nI n ∧ ∀ c, c < n → LEj S c (lg c) ∧ S 16 c = nI (st c)
def MKB (n : Nat) (mk bt : Nat → Nat) : Prop := ∀ c, c < n → (bt c).testBit (mk c) = true
theorem blt_t {a b : Nat} (h : a < b) : Nat.blt a b = true := Nat.ble_eq_true_of_le h
theorem blt_f {a b : Nat} (h : b ≤ a) : Nat.blt a b = false := by
  cases hb : Nat.blt a b
  · rfl
  · exact absurd (Nat.le_of_ble_eq_true (show Nat.ble (a + 1) b = true from hb)) (by omega)
theorem sw_lo {k : Nat} (h : k < 7) : sw k = k + 7 := by
  unfold sw
  rw [blt_t h]
  rfl
theorem sw_mid {k : Nat} (h : 7 ≤ k) (h2 : k < 14) : sw k = k - 7 := by
  unfold sw
  rw [blt_f h, blt_t h2]
  rfl
theorem sw_hi {k : Nat} (h : 14 ≤ k) : sw k = k := by
  unfold sw
  rw [blt_f (show 7 ≤ k by omega), blt_f h]
  rfl
theorem swS_hi {S : St} {k : Nat} (h : 14 ≤ k) : swS S k = S k := congrArg S (sw_hi h)
theorem swS_swS (S : St) : swS (swS S) = S := by
  funext k
  show S (sw (sw k)) = S k
  rcases Nat.lt_or_ge k 7 with h | h
  · rw [sw_lo h, sw_mid (by omega) (by omega), Nat.add_sub_cancel]
  · rcases Nat.lt_or_ge k 14 with h2 | h2
    · rw [sw_mid h h2, sw_lo (by omega), Nat.sub_add_cancel h]
    · rw [sw_hi h2, sw_hi h2]
theorem LEj.fr2 {S U : St} {j : Nat} {c : CH} (h : LEj S j c) (hf : ∀ k, 15 ≤ k → k < 21 → U k = S k) : LEj U j c := by
  unfold LEj
  rw [hf 15 (by decide) (by decide), hf 17 (by decide) (by decide), hf 18 (by decide) (by decide), hf 19 (by decide) (by decide), hf 20 (by decide) (by decide)]
  exact h
theorem TR.fr {S U : St} {m n : Nat} {lg : Nat → CH} {bt st A : Nat → Nat} {L : List Nat} (h : TR S m n lg bt st A L) (hf : ∀ k, k < 7 → U k = S k) : TR U m n lg bt st A L := by
  obtain ⟨a, ⟨b, b'⟩, c, ⟨d2, d3, d4, d5, d6⟩, e⟩ := h
  refine ⟨?_, ⟨?_, fun i c q => ?_⟩, c, ⟨fun k hk => ?_, fun k hk q => ?_, fun k hk => ?_, fun k hk => ?_, fun k hk => ?_⟩, ?_⟩
  · rw [hf 0 (by decide)]; exact a
  · rw [hf 0 (by decide)]; exact b
  · rw [hf 1 (by decide)]; exact b' i c q
  · rw [hf 2 (by decide)]; exact d2 k hk
  · rw [hf 3 (by decide)]; exact d3 k hk q
  · rw [hf 4 (by decide)]; exact d4 k hk
  · rw [hf 5 (by decide)]; exact d5 k hk
  · rw [hf 6 (by decide)]; exact d6 k hk
  · unfold RC
    rw [hf 0 (by decide)]
    exact e
def QE (S S' : St) : Prop := ∀ k, k ≠ 31 → S' k = S k
theorem has_off {S : St} {T : AT} {x : Int32} (h2 : E2 S T) (h : ∀ k, k < 42 → x = nI k → tTh T k = false) : X4_has S x = some 0 := by
  rcases pk_ix x (n := 42) (by decide) with q | q | ⟨j, hj, rfl⟩
  · unfold X4_has X4_has_b23 X4_has_b24
    rw [if_pos q]
    rfl
  · unfold X4_has X4_has_b23 X4_has_b24
    have q' : (42 : Int32) ≤ x := q
    by_cases h0 : x < 0
    · rw [if_pos h0]
      rfl
    · rw [if_neg h0, if_pos q']
      rfl
  · rw [has_ok h2 hj, h j hj rfl]
    rfl
