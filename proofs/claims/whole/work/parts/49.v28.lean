/-! PURE 28: the calls as they stand in the law -/
theorem top_gen {S M : St} (h : INV 0 S M) (x1 : Int32) {f5 : St → Option (Nat × Int32 × St)} {a5 : Option (Nat × Int32 × St)} {b6 : Option (Int32 × St)} (hdef : a5 = (X5_treeOf S x1).bind fun q2 => if q2.1 = 0 then (bif q2.2 then ((f5 (swS S)).map unz) else (f5 S)) else some (q2.1, 0, S)) (h0 : ∀ m S', m < 2 → x1 = nI m → INV m S' M → SAME m (f5 S') b6) (hbad : (∀ j, j < 2 → x1 ≠ nI j) → b6 = some (0, up M 0 (upd (M 0) 25 (nI 1)))) : SAME 0 a5 b6 := by
  rw [hdef]
  rcases treeOf_cases S x1 with ⟨e, t⟩ | ⟨e, t⟩ | ⟨e, t⟩
  · rw [t, bs]
    exact h0 0 S (by decide) e h
  · rw [t, bs]
    obtain ⟨k, v, S', w, M', q1, q2, q3, q4, q5, q6⟩ := h0 1 (swS S) (by decide) e (h.swap (by decide))
    refine ⟨k, v, swS S', w, M', ?_, q2, q3.swap (by decide), q4, q5, q6⟩
    show (f5 (swS S)).map unz = _
    rw [q1]
    rfl
  · rw [t, bs, hbad e]
    exact sames_err h (by decide) (by decide)
theorem top_genD {S M : St} (h : INV 0 S M) (x1 : Int32) {f5 : St → Option (Nat × Int32 × St)} {a5 : Option (Nat × Int32 × St)} {b6 : Option (Int32 × St)} (hdef : a5 = (X5_treeOf S x1).bind fun q2 => if q2.1 = 0 then (bif q2.2 then ((f5 (swS S)).map unz) else (f5 S)) else some (q2.1, 0, S)) (h0 : ∀ m S', m < 2 → x1 = nI m → INV m S' M → SAMD m (f5 S') b6) (hbad : (∀ j, j < 2 → x1 ≠ nI j) → b6 = some (0, up M 0 (upd (M 0) 25 (nI 1)))) : SAMD 0 a5 b6 := by
  rw [hdef]
  rcases treeOf_cases S x1 with ⟨e, t⟩ | ⟨e, t⟩ | ⟨e, t⟩
  · rw [t, bs]
    exact h0 0 S (by decide) e h
  · rw [t, bs]
    obtain ⟨k, v, S', w, M', q1, q2, q3, q4, q5, q6⟩ := h0 1 (swS S) (by decide) e (h.swap (by decide))
    refine ⟨k, v, swS S', w, M', ?_, q2, q3.swap (by decide), q4, q5, q6⟩
    show (f5 (swS S)).map unz = _
    rw [q1]
    rfl
  · rw [t, bs, hbad e]
    exact samd_err (k := 1) h (QM.rfl' M) (.inr (.inl rfl)) (by decide)
theorem top_genQ {S M : St} (h : INV 0 S M) (x1 : Int32) {f5 : St → Option (Nat × Int32)} {a5 : Option (Nat × Int32)} {b6 : Option (Int32 × St)} (hdef : a5 = (X5_treeOf S x1).bind fun q2 => if q2.1 = 0 then (bif q2.2 then (f5 (swS S)) else (f5 S)) else some (q2.1, 0)) (h0 : ∀ m S', m < 2 → x1 = nI m → INV m S' M → SAMQ m S' (f5 S') b6) (hbad : (∀ j, j < 2 → x1 ≠ nI j) → ∃ w M', b6 = some (w, M') ∧ QM M M' ∧ M' 0 25 = nI 1) : SAMQ 0 S a5 b6 := by
  rw [hdef]
  rcases treeOf_cases S x1 with ⟨e, t⟩ | ⟨e, t⟩ | ⟨e, t⟩
  · rw [t, bs]
    exact h0 0 S (by decide) e h
  · rw [t, bs]
    obtain ⟨k, v, w, M', q1, q2, q3, q4, q5, q6⟩ := h0 1 (swS S) (by decide) e (h.swap (by decide))
    have q3' := q3.swap (by decide)
    rw [swS_swS] at q3'
    exact ⟨k, v, w, M', q1, q2, q3', q4, q5, q6⟩
  · obtain ⟨w, M', q1, q2, q3⟩ := hbad e
    rw [t, bs, q1]
    exact ⟨1, 0, w, M', rfl, rfl, h.qm q2, by decide, q3, fun z => absurd z (by decide)⟩
theorem top_add {S M : St} (h : INV 0 S M) (x1 x2 x3 x4 : Int32) : SAME 0 (X5_add S x1 x2 x3 x4) (X6_add M x1 x2 x3 x4) := top_gen h x1 (f5 := fun U => X5_add_b5 U x2 x3 x4) rfl (fun m S' hm e hI => by subst e; exact api_add hm hI x2 x3 x4) (fun e => by
  unfold X6_add
  rw [isHere_no e, bs]
  unfold X6_add_b7 X6_add_b20
  rw [if_pos rfl]
  exact add_no (k := 1) (by decide) (by decide))
theorem top_sett {S M : St} (h : INV 0 S M) (x1 x2 x3 x4 : Int32) : SAME 0 (X5_set S x1 x2 x3 x4) (X6_set M x1 x2 x3 x4) := top_gen h x1 (f5 := fun U => X5_set_b5 U x2 x3 x4) rfl (fun m S' hm e hI => by subst e; exact api_set hm hI x2 x3 x4) (fun e => by
  unfold X6_set
  rw [isHere_no e, bs]
  unfold X6_set_b7 X6_set_b19
  rw [if_pos rfl]
  exact set_no (k := 1) (by decide) (by decide))
theorem top_move {S M : St} (h : INV 0 S M) (x1 x2 x3 x4 : Int32) : SAME 0 (X5_move S x1 x2 x3 x4) (X6_move M x1 x2 x3 x4) := top_gen h x1 (f5 := fun U => X5_move_b5 U x2 x3 x4) rfl (fun m S' hm e hI => by subst e; exact api_move hm hI x2 x3 x4) (fun e => by
  unfold X6_move
  rw [isHere_no e, bs]
  unfold X6_move_b6
  rw [if_pos rfl]
  unfold X6_move_b22 X6_move_b23
  rw [if_pos rfl]
  exact move_no (k := 1) (by decide) (by decide))
theorem top_delete {S M : St} (h : INV 0 S M) (x1 x2 : Int32) : SAMD 0 (X5_delete S x1 x2) (X6_delete M x1 x2) := top_genD h x1 (f5 := fun U => X5_delete_b5 U x2) rfl (fun m S' hm e hI => by subst e; exact api_delete hm hI x2) (fun e => by
  unfold X6_delete
  rw [isHere_no e, bs]
  unfold X6_delete_b7
  rw [if_pos rfl]
  exact delete_no (k := 1) (by decide) (by decide))
theorem top_holds {S M : St} (h : INV 0 S M) (x1 x2 x3 : Int32) : SAME 0 (X5_holds S x1 x2 x3) (X6_holds M x1 x2 x3) := top_gen h x1 (f5 := fun U => X5_holds_b5 U x2 x3) rfl (fun m S' hm e hI => by subst e; exact api_holds hm hI x2 x3) (fun e => by
  unfold X6_holds
  rw [mst_no e, bs, if_pos rfl]
  exact holds_no)
theorem top_search {S M : St} (h : INV 0 S M) (x1 x2 x3 x4 x5 x6 : Int32) : SAME 0 (X5_search S x1 x2 x3 x4 x5 x6) (X6_search M x1 x2 x3 x4 x5 x6) := top_gen h x1 (f5 := fun U => X5_search_b5 U x2 x3 x4 x5 x6) rfl (fun m S' hm e hI => by subst e; exact api_search hm hI x2 x3 x4 x5 x6) (fun e => by
  unfold X6_search
  rw [isHere_no e, bs]
  unfold X6_search_b6
  rw [if_pos rfl]
  exact search_no1)
theorem top_entries {S M : St} (h : INV 0 S M) (x1 : Int32) : SAMQ 0 S (X5_entries S x1) (X6_entries M x1) := top_genQ h x1 (f5 := fun U => X5_entries_b5 U) rfl (fun m S' hm e hI => by subst e; exact api_entries hm hI) (fun e => by
  unfold X6_entries
  rw [isHere_no e, bs]
  unfold X6_entries_b7 X6_entries_b15 X6_entries_b18 X6_entries_b34
  rw [if_pos rfl, up_s, upd_s, if_neg (by decide)]
  exact ⟨0, _, rfl, qm25 M 1, by rw [up_s, upd_s]; rfl⟩)
theorem top_isThere {S M : St} (h : INV 0 S M) (x1 x2 : Int32) : SAMQ 0 S (X5_isThere S x1 x2) (X6_isThere M x1 x2) := top_genQ h x1 (f5 := fun U => X5_isThere_b5 U x2) rfl (fun m S' hm e hI => by subst e; exact api_isThere hm hI x2) (fun e => by
  unfold X6_isThere
  rw [mst_no e, bs, if_pos rfl]
  unfold X6_isThere_b13 X6_isThere_b16 X6_isThere_b22
  rw [isHere_no e, bs]
  exact ⟨0, up M 0 (upd (M 0) 25 1), if_pos (show (0 : Int32) &&& 1 = 0 by decide), qm25 M 1, by rw [up_s, upd_s]; rfl⟩)
theorem asks_no {M : St} {x y : Int32} (h : ∀ j, j < 2 → x ≠ nI j) : X6_asks M x y = some (0, up M 0 (upd (M 0) 25 1)) := by
  unfold X6_asks
  rw [isHere_no h, bs]
  unfold X6_asks_b7 X6_asks_b15 X6_asks_b18 X6_asks_b30
  rw [if_pos rfl, up_s, upd_s, if_neg (by decide), if_pos (by decide)]
theorem top_parentOf {S M : St} (h : INV 0 S M) (x1 x2 : Int32) : SAMQ 0 S (X5_parentOf S x1 x2) (X6_parentOf M x1 x2) := top_genQ h x1 (f5 := fun U => X5_parentOf_b5 U x2) rfl (fun m S' hm e hI => by subst e; exact api_parentOf hm hI x2) (fun e => by
  unfold X6_parentOf
  rw [asks_no e, bs]
  unfold X6_parentOf_b6 X6_parentOf_b19
  rw [if_pos rfl]
  exact ⟨0, _, rfl, qm25 M 1, show up M 0 (upd (M 0) 25 1) 0 25 = nI 1 from by rw [up_s, upd_s]; rfl⟩)
theorem top_labelOf {S M : St} (h : INV 0 S M) (x1 x2 : Int32) : SAMQ 0 S (X5_labelOf S x1 x2) (X6_labelOf M x1 x2) := top_genQ h x1 (f5 := fun U => X5_labelOf_b5 U x2) rfl (fun m S' hm e hI => by subst e; exact api_labelOf hm hI x2) (fun e => by
  unfold X6_labelOf
  rw [asks_no e, bs]
  unfold X6_labelOf_b6 X6_labelOf_b19
  rw [if_pos rfl]
  exact ⟨0, _, rfl, qm25 M 1, show up M 0 (upd (M 0) 25 1) 0 25 = nI 1 from by rw [up_s, upd_s]; rfl⟩)
theorem top_value {S M : St} (h : INV 0 S M) (x1 x2 x3 : Int32) : SAMQ 0 S (X5_value S x1 x2 x3) (X6_value M x1 x2 x3) := top_genQ h x1 (f5 := fun U => X5_value_b5 U x2 x3) rfl (fun m S' hm e hI => by subst e; exact api_value hm hI x2 x3) (fun e => by
  unfold X6_value
  rw [isHere_no e, bs]
  unfold X6_value_b7 X6_value_b23 X6_value_b24 X6_value_b27 X6_value_b48
  rw [if_pos rfl, up_s, upd_s, if_neg (by decide)]
  exact ⟨0, _, rfl, qm25 M 1, by rw [up_s, upd_s]; rfl⟩)
theorem top_isWhole {S M : St} (h : INV 0 S M) (x1 x2 : Int32) : SAMQ 0 S (X5_isWhole S x1 x2) (X6_isWhole M x1 x2) := top_genQ h x1 (f5 := fun U => X5_isWhole_b5 U x2) rfl (fun m S' hm e hI => by subst e; exact api_isWhole hm hI x2) (fun e => by
  unfold X6_isWhole
  rw [asks_no e, bs]
  exact ⟨0, _, whole0_ok, qm25 M 1, show up M 0 (upd (M 0) 25 1) 0 25 = nI 1 from by rw [up_s, upd_s]; rfl⟩)
theorem top_find {S M : St} (h : INV 0 S M) (x1 x2 x3 : Int32) : SAMQ 0 S (X5_find S x1 x2 x3) (X6_find M x1 x2 x3) := top_genQ h x1 (f5 := fun U => X5_find_b5 U x2 x3) rfl (fun m S' hm e hI => by subst e; exact api_find hm hI x2 x3) (fun e => by
  unfold X6_find
  rw [isHere_no e, bs]
  unfold X6_find_b7 X6_find_b29 X6_find_b32 X6_find_b50
  rw [if_pos rfl, up_s, upd_s, if_neg (by decide)]
  exact ⟨0, _, rfl, qm25 M 1, by rw [up_s, upd_s]; rfl⟩)
theorem carry_no {M : St} {x1 x2 : Int32} : X6_carry_b20 M x1 x2 = some (0, up M 0 (upd (M 0) 25 (nI 1))) := by
  unfold X6_carry_b20 X6_carry_b21 X6_carry_b24
  rw [up_s, upd_s, if_neg (by decide)]
  rfl
theorem top_carry {S M : St} (h : INV 0 S M) (x1 x2 : Int32) : SAME 0 (X5_carry S x1 x2) (X6_carry M x1 x2) := by
  have hh := h
  obtain ⟨n, lg, tm, mk, bt, N, A, L, L', F, hI⟩ := hh
  have h40 := hI.1.1.1
  have hs := hI.swap (by decide)
  unfold X5_carry
  rw [hI.2.1.1]
  rcases ix_both x1 (n := n) (by omega) with ⟨c, hc, rfl, e1, e2⟩ | ⟨_, e1, e2⟩
  · rw [e1, bs, if_pos rfl]
    rcases treeOf_cases S x2 with ⟨e, t⟩ | ⟨e, t⟩ | ⟨e, t⟩
    · rw [t, bs, e]
      obtain ⟨w, S', M', q1, q2, q3, q4⟩ := carry_ok (m := 0) (by decide) hI hc
      rw [q2]
      exact ⟨0, w, S', w, M', q1, rfl, q3, by decide, q4, fun _ => rfl⟩
    · rw [t, bs, e]
      obtain ⟨w, S', M', q1, q2, q3, q4⟩ := carry_ok (m := 1) (by decide) hs hc
      rw [q2]
      refine ⟨0, w, swS S', w, M', ?_, rfl, q3.swap (by decide), by decide, q4, fun _ => rfl⟩
      show (X5_carry_b16 (swS S) (nI c)).map unz = _
      rw [q1]
      rfl
    · rw [t, bs]
      have q : X6_carry M (nI c) x2 = some (0, up M 0 (upd (M 0) 25 (nI 1))) := by
        unfold X6_carry X6_isChange
        rw [hI.2.2.1.1, e2, bs, if_pos (by decide), bs, if_neg one0, mst_no e, bs, if_pos rfl, carry_no]
      rw [q]
      exact sames_err h (by decide) (by decide)
  · have q : X6_carry M x1 x2 = some (0, up M 0 (upd (M 0) 25 (nI 1))) := by
      unfold X6_carry X6_isChange
      rw [hI.2.2.1.1, e2, bs, if_pos (by decide), bs, if_pos rfl, carry_no]
    rw [e1, bs, if_neg (by decide), q]
    exact sames_err h (by decide) (by decide)
