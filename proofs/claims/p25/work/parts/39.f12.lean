/-! PURE 12: the calls that make a change -/
theorem append_ok {S : St} {n : Nat} (k s e t c cl : Int32) (h : S 14 6 = nI n) (hn : n < 40) : ∃ S1, X2_append S k s e t c cl = some (nI n, S1) ∧ (∀ j, j < 14 ∨ 21 ≤ j → S1 j = S j) ∧ S1 14 6 = nI (n + 1) ∧ (∀ j d, 15 ≤ j → j < 21 → d ≠ n → S1 j d = S j d) ∧ S1 15 n = k ∧ S1 16 n = s ∧ S1 17 n = e ∧ S1 18 n = t ∧ S1 19 n = c ∧ S1 20 n = cl := by
  unfold X2_append X2_append_b16 X2_append_b26 X2_append_b36 X2_append_b47 X2_append_b58 X2_append_b69 X2_append_b79
  rw [h, put_in hn (by decide), bs, put_in hn (by decide), bs, put_in hn (by decide), bs, put_in hn (by decide), bs, put_in hn (by decide), bs, put_in hn (by decide), bs]
  generalize hV : up (up (up (up (up (up (up S 15 _) 16 _) 17 _) 18 _) 19 _) 20 _) 14 _ = V
  have v14 : V 14 = upd (S 14) 6 (S 14 6 + 1) := by rw [← hV, up_s, up_n (by decide), up_n (by decide), up_n (by decide), up_n (by decide), up_n (by decide), up_n (by decide)]
  have v15 : V 15 = upd (S 15) n k := by rw [← hV, up_n (by decide), up_n (by decide), up_n (by decide), up_n (by decide), up_n (by decide), up_n (by decide), up_s]
  have v16 : V 16 = upd (S 16) n s := by rw [← hV, up_n (by decide), up_n (by decide), up_n (by decide), up_n (by decide), up_n (by decide), up_s, up_n (by decide)]
  have v17 : V 17 = upd (S 17) n e := by rw [← hV, up_n (by decide), up_n (by decide), up_n (by decide), up_n (by decide), up_s, up_n (by decide), up_n (by decide)]
  have v18 : V 18 = upd (S 18) n t := by rw [← hV, up_n (by decide), up_n (by decide), up_n (by decide), up_s, up_n (by decide), up_n (by decide), up_n (by decide)]
  have v19 : V 19 = upd (S 19) n c := by rw [← hV, up_n (by decide), up_n (by decide), up_s, up_n (by decide), up_n (by decide), up_n (by decide), up_n (by decide)]
  have v20 : V 20 = upd (S 20) n cl := by rw [← hV, up_n (by decide), up_s, up_n (by decide), up_n (by decide), up_n (by decide), up_n (by decide), up_n (by decide)]
  have vf : ∀ j, j < 14 ∨ 21 ≤ j → V j = S j := fun j hj => by rw [← hV, up_n (by omega), up_n (by omega), up_n (by omega), up_n (by omega), up_n (by omega), up_n (by omega), up_n (by omega)]
  refine ⟨V, rfl, vf, by rw [v14, upd_s, h, nI_succ], fun j d a b hd => ?_, by rw [v15, upd_s], by rw [v16, upd_s], by rw [v17, upd_s], by rw [v18, upd_s], by rw [v19, upd_s], by rw [v20, upd_s]⟩
  have : j = 15 ∨ j = 16 ∨ j = 17 ∨ j = 18 ∨ j = 19 ∨ j = 20 := by omega
  rcases this with rfl | rfl | rfl | rfl | rfl | rfl
  · rw [v15, upd_n hd]
  · rw [v16, upd_n hd]
  · rw [v17, upd_n hd]
  · rw [v18, upd_n hd]
  · rw [v19, upd_n hd]
  · rw [v20, upd_n hd]
theorem up_c {M : St} {k n j c : Nat} {v : Int32} (hc : c ≠ n) : up M k (upd (M k) n v) j c = M j c := by
  by_cases h : j = k
  · rw [h, up_s, upd_n hc]
  · rw [up_n h]
theorem nkp {k : Nat} (h0 : k ≠ 0) (hk : k < 4) : ¬ nI k ≤ 0 := nI_nle (by omega) (by omega)
theorem e25 {M : St} : (up M 0 (upd (M 0) 25 0)) 0 25 = 0 := by rw [up_s, upd_s]
theorem nkx {a b : Nat} {P : Prop} (q : a = b) (h : Nat.beq a b = false) : P := by
  rw [q, Nat.beq_refl] at h
  exact absurd h (by decide)
theorem w3_of {x l : Nat} (h : l ≤ 99) : ∀ x, some l = some x → x < 100 := fun x q => by rw [← Option.some.inj q]; omega
