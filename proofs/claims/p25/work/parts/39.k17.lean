/-! PURE 17: filters made, isWhole, areAlike -/
theorem fapp_ok {S : St} {F : Nat} (k a b : Int32) (h : S 27 4 = nI F) (hF : F < 20) : ∃ S1, X1_append S k a b = some (nI F, S1) ∧ (∀ j, j < 27 ∨ 31 ≤ j → S1 j = S j) ∧ S1 27 4 = nI (F + 1) ∧ (∀ j d, d ≠ F → 28 ≤ j → j < 31 → S1 j d = S j d) ∧ S1 28 F = k ∧ S1 29 F = a ∧ S1 30 F = b := by
  unfold X1_append X1_append_b16 X1_append_b26 X1_append_b36 X1_append_b46
  rw [h, put_in hF (by decide), bs, put_in hF (by decide), bs, put_in hF (by decide), bs]
  generalize hV : up (up (up (up S 28 _) 29 _) 30 _) 27 _ = V
  have v27 : V 27 = upd (S 27) 4 (S 27 4 + 1) := by rw [← hV, up_s, up_n (by decide), up_n (by decide), up_n (by decide)]
  have v28 : V 28 = upd (S 28) F k := by rw [← hV, up_n (by decide), up_n (by decide), up_n (by decide), up_s]
  have v29 : V 29 = upd (S 29) F a := by rw [← hV, up_n (by decide), up_n (by decide), up_s, up_n (by decide)]
  have v30 : V 30 = upd (S 30) F b := by rw [← hV, up_n (by decide), up_s, up_n (by decide), up_n (by decide)]
  refine ⟨V, rfl, fun j hj => by rw [← hV, up_n (by omega), up_n (by omega), up_n (by omega), up_n (by omega)], by rw [v27, upd_s, h, nI_succ], fun j d hd h1 h2 => ?_, by rw [v28, upd_s], by rw [v29, upd_s], by rw [v30, upd_s]⟩
  have : j = 28 ∨ j = 29 ∨ j = 30 := by omega
  rcases this with rfl | rfl | rfl
  · rw [v28, upd_n hd]
  · rw [v29, upd_n hd]
  · rw [v30, upd_n hd]
def tco (k : Nat) : Nat := if k = 2 then 1 else if k = 3 then 2 else k
