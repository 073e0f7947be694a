/-! CLASS 6: what is refused -/
def RF (S : St) (n F : Nat) : Prop := S 14 6 = nI n ∧ n ≤ 40 ∧ S 27 4 = nI F ∧ F ≤ 20 ∧ X5_checkEntry S (nI 0) = some 0 ∧ X5_checkEntry S (nI 1) = some 0
def BADE (S : St) (x : Int32) : Prop := X5_checkEntry S x = some 1 ∧ X4_has S x = some 0
section RF1
variable {S : St} {n F : Nat} {x1 x2 x3 x4 x5 x6 : Int32}
theorem q_add_m (h : ∀ j, j < 2 → x1 ≠ nI j) : X5_add S x1 x2 x3 x4 = some (1, 0, S) := by
  unfold X5_add
  rw [treeOf_no S h, bs, if_neg (by decide)]
theorem q_add_e (h : BADE S x2) : X5_add S (nI 0) x2 x3 x4 = some (1, 0, S) := by
  unfold X5_add X5_add_b5
  rw [treeOf_0, bs, if_pos rfl, cond_false, h.1, bs, if_neg (by decide)]
theorem q_add_c (r : RF S n F) (h : ∀ j, j < 3 → x4 ≠ nI j) : X5_add S (nI 0) (nI 0) x3 x4 = some (1, 0, S) := by
  unfold X5_add X5_add_b5
  have e : X5_checkIndex x4 3 = some 1 := ix_out (n := 3) (by decide) h
  rw [treeOf_0, bs, if_pos rfl, cond_false, r.2.2.2.2.1, bs, if_pos rfl, e, bs, if_neg (by decide)]
theorem q_add_l (r : RF S n F) (h : x3 < 0 ∨ ¬ x3 ≤ 99) : X5_add S (nI 0) (nI 0) x3 (nI 0) = some (2, 0, S) := by
  unfold X5_add X5_add_b5
  have e : X5_checkIndex (nI 0) 3 = some 0 := ix_in (n := 3) (by decide) (by decide)
  rw [treeOf_0, bs, if_pos rfl, cond_false, r.2.2.2.2.1, bs, if_pos rfl, e, bs, if_pos rfl, arg_out h, bs, if_neg (by decide)]
theorem q_set_m (h : ∀ j, j < 2 → x1 ≠ nI j) : X5_set S x1 x2 x3 x4 = some (1, 0, S) := by
  unfold X5_set
  rw [treeOf_no S h, bs, if_neg (by decide)]
theorem q_set_e (h : BADE S x2) : X5_set S (nI 0) x2 x3 x4 = some (1, 0, S) := by
  unfold X5_set X5_set_b5
  rw [treeOf_0, bs, if_pos rfl, cond_false, h.1, bs, if_neg (by decide)]
theorem q_set_a (r : RF S n F) (h : ∀ j, j < 4 → x3 ≠ nI j) : X5_set S (nI 0) (nI 0) x3 x4 = some (1, 0, S) := by
  unfold X5_set X5_set_b5
  have e : X5_checkIndex x3 4 = some 1 := ix_out (n := 4) (by decide) h
  rw [treeOf_0, bs, if_pos rfl, cond_false, r.2.2.2.2.1, bs, if_pos rfl, e, bs, if_neg (by decide)]
theorem q_set_v (r : RF S n F) (h : x4 < -1 ∨ ¬ x4 ≤ 9) : X5_set S (nI 0) (nI 0) (nI 0) x4 = some (2, 0, S) := by
  unfold X5_set X5_set_b5
  have e : X5_checkIndex (nI 0) 4 = some 0 := ix_in (n := 4) (by decide) (by decide)
  rw [treeOf_0, bs, if_pos rfl, cond_false, r.2.2.2.2.1, bs, if_pos rfl, e, bs, if_pos rfl, arg_out h, bs, if_neg (by decide)]
theorem q_move_m (h : ∀ j, j < 2 → x1 ≠ nI j) : X5_move S x1 x2 x3 x4 = some (1, 0, S) := by
  unfold X5_move
  rw [treeOf_no S h, bs, if_neg (by decide)]
theorem q_move_e (h : BADE S x2) : X5_move S (nI 0) x2 x3 x4 = some (1, 0, S) := by
  unfold X5_move X5_move_b5
  rw [treeOf_0, bs, if_pos rfl, cond_false, h.1, bs, if_neg (by decide)]
theorem q_move_p (r : RF S n F) (h : BADE S x3) : X5_move S (nI 0) (nI 0) x3 x4 = some (1, 0, S) := by
  unfold X5_move X5_move_b5
  rw [treeOf_0, bs, if_pos rfl, cond_false, r.2.2.2.2.1, bs, if_pos rfl, h.1, bs, if_neg (by decide)]
theorem q_move_l (r : RF S n F) (h : x4 < 0 ∨ ¬ x4 ≤ 99) : X5_move S (nI 0) (nI 0) (nI 0) x4 = some (2, 0, S) := by
  unfold X5_move X5_move_b5
  rw [treeOf_0, bs, if_pos rfl, cond_false, r.2.2.2.2.1, bs, if_pos rfl, bs, if_pos rfl, arg_out h, bs, if_neg (by decide)]
theorem q_room (r : RF S n F) : X5_checkRoomForChange S = some 0 ∨ X5_checkRoomForChange S = some 3 := by
  unfold X5_checkRoomForChange
  by_cases h : S 14 6 < 40
  · left; rw [if_pos h]
  · right; rw [if_neg h]
theorem q_fixed {p : Nat} (r : RF S n F) (hp : p < 2) : X5_checkEntry S (nI p) = some 0 := by
  have : p = 0 ∨ p = 1 := by omega
  rcases this with rfl | rfl
  · exact r.2.2.2.2.1
  · exact r.2.2.2.2.2
theorem q_move_f {p : Nat} (r : RF S n F) (hp : p < 2) : X5_move S (nI 0) (nI p) (nI 0) (nI 5) = some (3, 0, S) := by
  unfold X5_move X5_move_b5
  rw [treeOf_0, bs, if_pos rfl, cond_false, q_fixed r hp, bs, if_pos rfl, r.2.2.2.2.1, bs, if_pos rfl, arg99 (by decide), bs, if_pos rfl]
  rcases q_room r with e | e
  · rw [e, bs, if_pos rfl, fix_yes hp, bs, if_neg (by decide)]
  · rw [e, bs, if_neg (by decide)]
theorem q_delete_m (h : ∀ j, j < 2 → x1 ≠ nI j) : X5_delete S x1 x2 = some (1, 0, S) := by
  unfold X5_delete
  rw [treeOf_no S h, bs, if_neg (by decide)]
theorem q_delete_e (h : BADE S x2) : X5_delete S (nI 0) x2 = some (1, 0, S) := by
  unfold X5_delete X5_delete_b5
  rw [treeOf_0, bs, if_pos rfl, cond_false, h.1, bs, if_neg (by decide)]
theorem q_delete_f {p : Nat} (r : RF S n F) (hp : p < 2) : X5_delete S (nI 0) (nI p) = some (3, 0, S) := by
  unfold X5_delete X5_delete_b5
  rw [treeOf_0, bs, if_pos rfl, cond_false, q_fixed r hp, bs, if_pos rfl]
  rcases q_room r with e | e
  · rw [e, bs, if_pos rfl, fix_yes hp, bs, if_neg (by decide)]
  · rw [e, bs, if_neg (by decide)]
theorem q_carry_c (r : RF S n F) (h : ∀ j, j < n → x1 ≠ nI j) : X5_carry S x1 x2 = some (1, 0, S) := by
  have := r.2.1
  unfold X5_carry
  rw [r.1, ix_out (by omega) h, bs, if_neg (by decide)]
theorem q_carry_m (r : RF S n F) (h : ∀ j, j < 2 → x2 ≠ nI j) : X5_carry S (nI 0) x2 = some (1, 0, S) := by
  have := r.2.1
  rcases Nat.eq_zero_or_pos n with q | q
  · exact q_carry_c r (fun j hj => absurd hj (by omega))
  · unfold X5_carry
    rw [r.1, ix_in q (by omega), bs, if_pos rfl, treeOf_no S h, bs, if_neg (by decide)]
theorem q_timeOf (r : RF S n F) (h : ∀ j, j < n → x1 ≠ nI j) : X5_timeOf S x1 = some (1, 0) := by
  have := r.2.1
  unfold X5_timeOf
  rw [r.1, ix_out (by omega) h, bs, if_neg (by decide)]
theorem q_entries_m (h : ∀ j, j < 2 → x1 ≠ nI j) : X5_entries S x1 = some (1, 0) := by
  unfold X5_entries
  rw [treeOf_no S h, bs, if_neg (by decide)]
theorem q_isThere_m (h : ∀ j, j < 2 → x1 ≠ nI j) : X5_isThere S x1 x2 = some (1, 0) := by
  unfold X5_isThere
  rw [treeOf_no S h, bs, if_neg (by decide)]
theorem q_isThere_e (h : BADE S x2) : X5_isThere S (nI 0) x2 = some (0, 0) := by
  unfold X5_isThere X5_isThere_b5
  rw [treeOf_0, bs, if_pos rfl, cond_false, h.2, bs, if_pos (by decide)]
theorem q_parentOf_m (h : ∀ j, j < 2 → x1 ≠ nI j) : X5_parentOf S x1 x2 = some (1, 0) := by
  unfold X5_parentOf
  rw [treeOf_no S h, bs, if_neg (by decide)]
theorem q_parentOf_e (h : BADE S x2) : X5_parentOf S (nI 0) x2 = some (1, 0) := by
  unfold X5_parentOf X5_parentOf_b5
  rw [treeOf_0, bs, if_pos rfl, cond_false, h.1, bs, if_neg (by decide)]
theorem q_labelOf_m (h : ∀ j, j < 2 → x1 ≠ nI j) : X5_labelOf S x1 x2 = some (1, 0) := by
  unfold X5_labelOf
  rw [treeOf_no S h, bs, if_neg (by decide)]
theorem q_labelOf_e (h : BADE S x2) : X5_labelOf S (nI 0) x2 = some (1, 0) := by
  unfold X5_labelOf X5_labelOf_b5
  rw [treeOf_0, bs, if_pos rfl, cond_false, h.1, bs, if_neg (by decide)]
theorem q_value_m (h : ∀ j, j < 2 → x1 ≠ nI j) : X5_value S x1 x2 x3 = some (1, 0) := by
  unfold X5_value
  rw [treeOf_no S h, bs, if_neg (by decide)]
theorem q_value_e (h : BADE S x2) : X5_value S (nI 0) x2 x3 = some (1, 0) := by
  unfold X5_value X5_value_b5
  rw [treeOf_0, bs, if_pos rfl, cond_false, h.1, bs, if_neg (by decide)]
theorem q_value_a (r : RF S n F) (h : ∀ j, j < 4 → x3 ≠ nI j) : X5_value S (nI 0) (nI 0) x3 = some (1, 0) := by
  unfold X5_value X5_value_b5
  have e : X5_checkIndex x3 4 = some 1 := ix_out (n := 4) (by decide) h
  rw [treeOf_0, bs, if_pos rfl, cond_false, r.2.2.2.2.1, bs, if_pos rfl, e, bs, if_neg (by decide)]
theorem q_isWhole_m (h : ∀ j, j < 2 → x1 ≠ nI j) : X5_isWhole S x1 x2 = some (1, 0) := by
  unfold X5_isWhole
  rw [treeOf_no S h, bs, if_neg (by decide)]
theorem q_isWhole_e (h : BADE S x2) : X5_isWhole S (nI 0) x2 = some (1, 0) := by
  unfold X5_isWhole X5_isWhole_b5
  rw [treeOf_0, bs, if_pos rfl, cond_false, h.1, bs, if_neg (by decide)]
theorem q_find_m (h : ∀ j, j < 2 → x1 ≠ nI j) : X5_find S x1 x2 x3 = some (1, 0) := by
  unfold X5_find
  rw [treeOf_no S h, bs, if_neg (by decide)]
theorem q_find_e (h : BADE S x2) : X5_find S (nI 0) x2 x3 = some (1, 0) := by
  unfold X5_find X5_find_b5
  rw [treeOf_0, bs, if_pos rfl, cond_false, h.1, bs, if_neg (by decide)]
theorem q_find_l (r : RF S n F) (h : x3 < 0 ∨ ¬ x3 ≤ 99) : X5_find S (nI 0) (nI 0) x3 = some (2, 0) := by
  unfold X5_find X5_find_b5
  rw [treeOf_0, bs, if_pos rfl, cond_false, r.2.2.2.2.1, bs, if_pos rfl, arg_out h, bs, if_neg (by decide)]
theorem q_class_i (h : ∀ j, j < 3 → x1 ≠ nI j) : X5_setClass S x1 x2 x3 = some (1, S) := by
  unfold X5_setClass
  have e : X5_checkIndex x1 3 = some 1 := ix_out (n := 3) (by decide) h
  rw [e, bs, if_neg (by decide)]
theorem q_class_n (h : x2 < 0 ∨ ¬ x2 ≤ 15) : X5_setClass S (nI 0) x2 x3 = some (2, S) := by
  unfold X5_setClass
  have e : X5_checkIndex (nI 0) 3 = some 0 := ix_in (n := 3) (by decide) (by decide)
  rw [e, bs, if_pos rfl, arg_out h, bs, if_neg (by decide)]
theorem q_class_a (h : x3 < 0 ∨ ¬ x3 ≤ 15) : X5_setClass S (nI 0) (nI 0) x3 = some (2, S) := by
  unfold X5_setClass
  have e : X5_checkIndex (nI 0) 3 = some 0 := ix_in (n := 3) (by decide) (by decide)
  have e2 : X5_checkArgument (nI 0) 0 15 = some 0 := by decide
  rw [e, bs, if_pos rfl, e2, bs, if_pos rfl, arg_out h, bs, if_neg (by decide)]
theorem q_class_full {i a b : Nat} (r : RF S n F) (hn : 0 < n) (hi : i < 3) (ha : a < 16) (hb : b < 16) : X5_setClass S (nI i) (nI a) (nI b) = some (3, S) := by
  have := r.2.1
  unfold X5_setClass
  have e : X5_checkIndex (nI i) 3 = some 0 := ix_in (n := 3) hi (by decide)
  have ea : ∀ a, a < 16 → X5_checkArgument (nI a) 0 15 = some 0 := fun a ha => arg_in (nI_pos (by omega)) (nI_le (b := 15) (by omega) (by decide))
  rw [e, bs, if_pos rfl, ea a ha, bs, if_pos rfl, ea b hb, bs, if_pos rfl, r.1, if_neg (nI_nle hn (by omega))]
theorem q_right_u (h : ∀ j, j < 3 → x1 ≠ nI j) : X5_setRight S x1 x2 x3 = some (1, S) := by
  unfold X5_setRight
  have e : X5_checkIndex x1 3 = some 1 := ix_out (n := 3) (by decide) h
  rw [e, bs, if_neg (by decide)]
theorem q_right_e (h : ∀ j, j < 42 → x2 ≠ nI j) : X5_setRight S (nI 0) x2 x3 = some (1, S) := by
  unfold X5_setRight
  have e : X5_checkIndex (nI 0) 3 = some 0 := ix_in (n := 3) (by decide) (by decide)
  have e2 : X5_checkIndex x2 42 = some 1 := ix_out (n := 42) (by decide) h
  rw [e, bs, if_pos rfl, e2, bs, if_neg (by decide)]
theorem q_right_v (h : x3 < -1 ∨ ¬ x3 ≤ 1) : X5_setRight S (nI 0) (nI 0) x3 = some (2, S) := by
  unfold X5_setRight
  have e : X5_checkIndex (nI 0) 3 = some 0 := ix_in (n := 3) (by decide) (by decide)
  have e2 : X5_checkIndex (nI 0) 42 = some 0 := ix_in (n := 42) (by decide) (by decide)
  rw [e, bs, if_pos rfl, e2, bs, if_pos rfl, arg_out h, bs, if_neg (by decide)]
theorem q_refer (h : ∀ j, j < 42 → x1 ≠ nI j) : X5_refer S x1 x2 = some (1, S) := by
  unfold X5_refer
  have e2 : X5_checkIndex x1 42 = some 1 := ix_out (n := 42) (by decide) h
  rw [e2, bs, if_neg (by decide)]
theorem q_test_k (h : x1 < 0 ∨ ¬ x1 ≤ 2) : X5_test S x1 x2 x3 = some (2, 0, S) := by
  unfold X5_test
  rw [arg_out h, bs, if_neg (by decide)]
theorem q_test_a (h : x2 < 0 ∨ ¬ x2 ≤ 3) : X5_test S (nI 0) x2 x3 = some (2, 0, S) := by
  unfold X5_test
  have e : X5_checkArgument (nI 0) 0 2 = some 0 := by decide
  rw [e, bs, if_pos rfl, arg_out h, bs, if_neg (by decide)]
theorem q_test_v (h : x3 < 0 ∨ ¬ x3 ≤ 9) : X5_test S (nI 0) (nI 0) x3 = some (2, 0, S) := by
  unfold X5_test
  have e : X5_checkArgument (nI 0) 0 2 = some 0 := by decide
  have e2 : X5_checkArgument (nI 0) 0 3 = some 0 := by decide
  rw [e, bs, if_pos rfl, e2, bs, if_pos rfl, arg_out h, bs, if_neg (by decide)]
theorem q_join_a (r : RF S n F) (h : ∀ j, j < F → x2 ≠ nI j) : X5_join S x1 x2 x3 = some (1, 0, S) := by
  have := r.2.2.2.1
  unfold X5_join
  rw [r.2.2.1, ix_out (by omega) h, bs, if_neg (by decide)]
theorem q_join_b (r : RF S n F) (h : ∀ j, j < F → x3 ≠ nI j) : X5_join S x1 (nI 0) x3 = some (1, 0, S) := by
  have := r.2.2.2.1
  rcases Nat.eq_zero_or_pos F with q | q
  · exact q_join_a r (fun j hj => absurd hj (by omega))
  · unfold X5_join
    rw [r.2.2.1, ix_in q (by omega), bs, if_pos rfl, ix_out (by omega) h, bs, if_neg (by decide)]
theorem q_join_k (r : RF S n F) (hF : 0 < F) (h : x1 < 0 ∨ ¬ x1 ≤ 2) : X5_join S x1 (nI 0) (nI 0) = some (2, 0, S) := by
  have := r.2.2.2.1
  unfold X5_join
  rw [r.2.2.1, ix_in hF (by omega), bs, if_pos rfl, bs, if_pos rfl, arg_out h, bs, if_neg (by decide)]
theorem q_holds_m (h : ∀ j, j < 2 → x1 ≠ nI j) : X5_holds S x1 x2 x3 = some (1, 0, S) := by
  unfold X5_holds
  rw [treeOf_no S h, bs, if_neg (by decide)]
theorem q_holds_f (r : RF S n F) (h : ∀ j, j < F → x2 ≠ nI j) : X5_holds S (nI 0) x2 x3 = some (1, 0, S) := by
  have := r.2.2.2.1
  unfold X5_holds X5_holds_b5
  rw [treeOf_0, bs, if_pos rfl, cond_false, r.2.2.1, ix_out (by omega) h, bs, if_neg (by decide)]
theorem q_holds_e (r : RF S n F) (hF : 0 < F) (h : BADE S x3) : X5_holds S (nI 0) (nI 0) x3 = some (1, 0, S) := by
  have := r.2.2.2.1
  unfold X5_holds X5_holds_b5
  rw [treeOf_0, bs, if_pos rfl, cond_false, r.2.2.1, ix_in hF (by omega), bs, if_pos rfl, h.1, bs, if_neg (by decide)]
theorem q_search_m (h : ∀ j, j < 2 → x1 ≠ nI j) : X5_search S x1 x2 x3 x4 x5 x6 = some (1, 0, S) := by
  unfold X5_search
  rw [treeOf_no S h, bs, if_neg (by decide)]
theorem q_search_u (h : ∀ j, j < 3 → x2 ≠ nI j) : X5_search S (nI 0) x2 x3 x4 x5 x6 = some (1, 0, S) := by
  unfold X5_search X5_search_b5
  have e : X5_checkIndex x2 3 = some 1 := ix_out (n := 3) (by decide) h
  rw [treeOf_0, bs, if_pos rfl, cond_false, e, bs, if_neg (by decide)]
theorem q_search_b (h : BADE S x3) : X5_search S (nI 0) (nI 0) x3 x4 x5 x6 = some (1, 0, S) := by
  unfold X5_search X5_search_b5
  have e : X5_checkIndex (nI 0) 3 = some 0 := ix_in (n := 3) (by decide) (by decide)
  rw [treeOf_0, bs, if_pos rfl, cond_false, e, bs, if_pos rfl, h.1, bs, if_neg (by decide)]
theorem q_search_f (r : RF S n F) (h : ∀ j, j < F → x5 ≠ nI j) : X5_search S (nI 0) (nI 0) (nI 0) x4 x5 x6 = some (1, 0, S) := by
  have := r.2.2.2.1
  unfold X5_search X5_search_b5
  have e : X5_checkIndex (nI 0) 3 = some 0 := ix_in (n := 3) (by decide) (by decide)
  rw [treeOf_0, bs, if_pos rfl, cond_false, e, bs, if_pos rfl, r.2.2.2.2.1, bs, if_pos rfl, r.2.2.1, ix_out (by omega) h, bs, if_neg (by decide)]
theorem q_search_p (r : RF S n F) (hF : 0 < F) (h : ¬ 0 ≤ x6) : X5_search S (nI 0) (nI 0) (nI 0) x4 (nI 0) x6 = some (1, 0, S) := by
  have := r.2.2.2.1
  unfold X5_search X5_search_b5
  have e : X5_checkIndex (nI 0) 3 = some 0 := ix_in (n := 3) (by decide) (by decide)
  rw [treeOf_0, bs, if_pos rfl, cond_false, e, bs, if_pos rfl, r.2.2.2.2.1, bs, if_pos rfl, r.2.2.1, ix_in hF (by omega), bs, if_pos rfl, if_neg h]
theorem q_search_s (r : RF S n F) (hF : 0 < F) (h : x4 < 0 ∨ ¬ x4 ≤ 2) : X5_search S (nI 0) (nI 0) (nI 0) x4 (nI 0) (nI 0) = some (2, 0, S) := by
  have := r.2.2.2.1
  unfold X5_search X5_search_b5
  have e : X5_checkIndex (nI 0) 3 = some 0 := ix_in (n := 3) (by decide) (by decide)
  rw [treeOf_0, bs, if_pos rfl, cond_false, e, bs, if_pos rfl, r.2.2.2.2.1, bs, if_pos rfl, r.2.2.1, ix_in hF (by omega), bs, if_pos rfl, if_pos (by decide), arg_out h, bs, if_neg (by decide)]
end RF1
section RF2
variable {m n F : Nat} {S : St} {lg : Nat → CH} {tm mk bt N A fk fa fb : Nat → Nat} {L L' : List Nat} {rg rf : Nat → Int32}
theorem IC.fr0 (hI : IC 0 S n lg tm mk bt N A L L' F fk fa fb rg rf) : RF S n F := by
  obtain ⟨wf, _, _⟩ := hI.wf
  exact ⟨hI.cnt, hI.n40, hI.fil, hI.F20, hI.ein (by decide) wf.1.1, hI.ein (by decide) wf.1.2.1⟩
theorem IC.bade {x : Int32} (hI : IC 0 S n lg tm mk bt N A L L' F fk fa fb rg rf) (hx : ∀ k, k < 42 → x = nI k → tTh (repl A lg L) k = false) : BADE S x := ⟨hI.eout hx, has_off hI.re.1 hx⟩
end RF2
def RFS (S : St) (n F g : Nat) : Prop := RF S n F ∧ (∀ x : Int32, (∀ k, k < 42 → x ≠ nI k) → BADE S x) ∧ BADE S (nI g) ∧ (∃ a b al : Int32, X5_entries S (nI 0) = some (0, a) ∧ X5_entries S (nI 1) = some (0, b) ∧ X5_areAlike S = some al)
theorem RFS.of {n F g : Nat} {S : St} {lg : Nat → CH} {tm mk bt N A fk fa fb : Nat → Nat} {L L' : List Nat} {rg rf : Nat → Int32} (hI : IC 0 S n lg tm mk bt N A L L' F fk fa fb rg rf) (hg : g < 42) (ht : tTh (repl A lg L) g = false) : RFS S n F g := by
  refine ⟨hI.fr0, fun x hx => hI.bade (fun k hk q => absurd q (hx k hk)), hI.bade (fun k hk q => by rw [← (nI_eq (by omega) (by omega)).mp q]; exact ht), ?_⟩
  have h1 := ic_entries (hI.swap (by decide)) rfl
  have h0 := ic_entries hI rfl
  have e0 : X5_entries S (nI 0) = X5_entries_b5 S := by
    unfold X5_entries
    rw [treeOf_0, bs, if_pos rfl, cond_false]
  have e1 : X5_entries S (nI 1) = X5_entries_b5 (swS S) := by
    unfold X5_entries
    rw [treeOf_1, bs, if_pos rfl, cond_true]
  rcases ic_alike_or hI with e | e
  · exact ⟨_, _, _, e0.trans h0, e1.trans h1, e⟩
  · exact ⟨_, _, _, e0.trans h0, e1.trans h1, e⟩
