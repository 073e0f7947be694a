/-! PURE 13: the questions -/
def SAMQ (m : Nat) (S : St) (a : Option (Nat × Int32)) (b : Option (Int32 × St)) : Prop := ∃ k v w M', a = some (k, v) ∧ b = some (w, M') ∧ INV m S M' ∧ k < 4 ∧ M' 0 25 = nI k ∧ (k = 0 → v = w)
theorem IV.inv {m : Nat} {S M : St} {n : Nat} {lg : Nat → CH} {tm mk bt N A : Nat → Nat} {L L' : List Nat} {F : Nat} (h : IV m S M n lg tm mk bt N A L L' F) : INV m S M := ⟨n, lg, tm, mk, bt, N, A, L, L', F, h⟩
theorem INV.qm {m : Nat} {S M M' : St} (h : INV m S M) (hF : QM M M') : INV m S M' := by
  obtain ⟨n, lg, tm, mk, bt, N, A, L, L', F, h⟩ := h
  exact ⟨n, lg, tm, mk, bt, N, A, L, L', F, h.q (fun _ _ => rfl) hF⟩
theorem samq_err {m k : Nat} {S M M1 : St} (h : INV m S M) (hF : QM M M1) (hk : k < 4) (h0 : k ≠ 0) {w : Int32} : SAMQ m S (some (k, 0)) (some (w, up M1 0 (upd (M1 0) 25 (nI k)))) := ⟨k, 0, w, _, rfl, rfl, h.qm (hF.trans (qm25 M1 _)), hk, by rw [up_s, upd_s], fun q => absurd q h0⟩
theorem samq_ok {m : Nat} {S M M1 : St} (h : INV m S M) (hF : QM M M1) {v w : Int32} (e : v = w) : SAMQ m S (some (0, v)) (some (w, up M1 0 (upd (M1 0) 25 0))) := ⟨0, v, w, _, rfl, rfl, h.qm (hF.trans (qm25 M1 _)), by decide, by rw [up_s, upd_s]; rfl, fun _ => e⟩
theorem count_ok {S : St} {T : AT} {x1 : Int32} (h1 : M18 S T) (h3 : M19 S T (-1)) : X6_count S x1 = some (nI (cntF (fun j => tTh T j && (decide (x1 < 0) || decide (paM T j = x1))) 42)) := by
  unfold X6_count X6_count_L4
  refine wl_for0 (f := fun a' : (Int32 × Int32 × Int32) => X6_count_H4 S a'.1 a'.2.1 a'.2.2) (N := 42) (fun j => (x1, nI (cntF (fun j => tTh T j && (decide (x1 < 0) || decide (paM T j = x1))) j), nI j)) (fun j hj => ?_) ?_ (by decide)
  · show X6_count_H4 S x1 (nI (cntF (fun j => tTh T j && (decide (x1 < 0) || decide (paM T j = x1))) j)) (nI j) = some (.inl (x1, nI (cntF (fun j => tTh T j && (decide (x1 < 0) || decide (paM T j = x1))) j + (if (tTh T j && (decide (x1 < 0) || decide (paM T j = x1))) = true then 1 else 0)), nI (j + 1)))
    generalize cntF (fun j => tTh T j && (decide (x1 < 0) || decide (paM T j = x1))) j = z
    have e0 : nI z + 0 = nI (z + 0) := nI_add z 0
    have e1 : nI z + 1 = nI (z + 1) := nI_add z 1
    unfold X6_count_H4 X6_count_b38 X6_count_b34 X6_count_b39
    rw [if_neg (ge42 hj), if_pos (in42 hj), cl42 hj, h1 j hj, ← nI_succ, e0, e1]
    cases ht : tTh T j
    · rw [if_pos bit0, if_neg (by simp)]
    · rw [if_neg bit1]
      by_cases hx : x1 < 0
      · rw [if_pos hx, if_pos (by simp [hx])]
      · rw [if_neg hx, if_pos (in42 hj), h3 j hj (nI_nn (by omega)) ht]
        by_cases hp : paM T j = x1
        · rw [if_pos hp, if_pos (by simp [hp])]
        · rw [if_neg hp, if_neg (by simp [hx, hp])]
  · show X6_count_H4 S x1 _ (nI 42) = _
    unfold X6_count_H4
    rw [if_pos le42]
    rfl
theorem cntF_congr {f g : Nat → Bool} : ∀ n, (∀ j, j < n → f j = g j) → cntF f n = cntF g n
  | 0, _ => rfl
  | n + 1, h => by
    show cntF f n + (if f n = true then 1 else 0) = cntF g n + (if g n = true then 1 else 0)
    rw [cntF_congr n (fun j hj => h j (by omega)), h n (by omega)]
theorem countAll_ok {S : St} {T : AT} (h1 : M18 S T) (h3 : M19 S T (-1)) : X6_count S (-1) = some (nI (cntF (tTh T) 42)) := by
  rw [count_ok h1 h3, cntF_congr 42 (g := tTh T) (fun j _ => by simp [show (-1 : Int32) < 0 by decide])]
theorem api_entries {m : Nat} {S M : St} (hm : m < 2) (h : INV m S M) : SAMQ m S (X5_entries_b5 S) (X6_entries M (nI m)) := by
  have hh := h
  obtain ⟨n, lg, tm, mk, bt, N, A, L, L', F, hI⟩ := hh
  obtain ⟨M1, r1, r2, hcase⟩ := isHere_ok hm hI 0
  have hI' := hI
  obtain ⟨⟨a, _⟩, _, _, ⟨_, _, d3, d4, d5⟩, _⟩ := hI'
  obtain ⟨w, _, _⟩ := repl_WF (A := A) (d3.wkl a)
  unfold X5_entries_b5 X6_entries
  rcases hcase with ⟨p, hp, hp0, hpt, e1, _, e2⟩ | ⟨hno, _⟩
  · rw [e1, bs]
    try dsimp only
    unfold X6_entries_b7 X6_entries_b15 X6_entries_b18 X6_entries_b34
    rw [if_neg (by decide), up_s, upd_s, if_pos (by decide), countAll_ok (S := up M1 0 (upd (M1 0) 25 0)) (T := repl A lg L) (fun k hk => r1.1 k hk) (fun k hk a b => r1.2.1 k hk a b), bs, d5]
    exact samq_ok h r2.qm rfl
  · have := w.1.1
    rw [hno 0 (by decide) rfl] at this
    exact absurd this (by decide)
theorem api_isThere {m : Nat} {S M : St} (hm : m < 2) (h : INV m S M) (x2 : Int32) : SAMQ m S (X5_isThere_b5 S x2) (X6_isThere M (nI m) x2) := by
  have h0 : INV m S (up M 0 (upd (M 0) 25 0)) := h.qm (qm25 M 0)
  have hh := h0
  obtain ⟨n, lg, tm, mk, bt, N, A, L, L', F, hI⟩ := hh
  obtain ⟨M1, r1, r2, hcase⟩ := isHere_ok hm hI x2
  have f25 : M1 0 25 = nI 0 := by rw [r2 0 (by omega), up_s, upd_s]; rfl
  unfold X5_isThere_b5 X6_isThere X6_isThere_b13 X6_isThere_b16 X6_isThere_b22
  rw [mst_ok hm, bs, if_neg (by decide)]
  rcases hcase with ⟨p, hp, rfl, hpt, e1, e2, _⟩ | ⟨_, e1, e2, _⟩
  · rw [e1, e2, bs, bs]
    show SAMQ m S (if (1 : Int32) &&& 1 = 1 then some (0, 1) else none) (if (1 : Int32) &&& 1 = 1 then some (1, M1) else none)
    rw [if_pos (by decide), if_pos (by decide)]
    exact ⟨0, 1, 1, M1, rfl, rfl, h0.qm r2.qm, by decide, f25, fun _ => rfl⟩
  · rw [e1, e2, bs, bs]
    show SAMQ m S (if (0 : Int32) &&& 1 = 0 then some (0, 0) else none) (if (0 : Int32) &&& 1 = 0 then some (0, M1) else none)
    rw [if_pos (by decide), if_pos (by decide)]
    exact ⟨0, 0, 0, M1, rfl, rfl, h0.qm r2.qm, by decide, f25, fun _ => rfl⟩
theorem paI_th {T : AT} {k : Nat} (h : tTh T k = true) : paI T k = paM T k := by
  unfold paI paM
  by_cases h0 : k = 0
  · rw [if_neg (fun q => q.2 h0), if_pos h0]
  · rw [if_pos ⟨h, h0⟩, if_neg h0]
theorem api_parentOf {m : Nat} {S M : St} (hm : m < 2) (h : INV m S M) (x2 : Int32) : SAMQ m S (X5_parentOf_b5 S x2) (X6_parentOf M (nI m) x2) := by
  have hh := h
  obtain ⟨n, lg, tm, mk, bt, N, A, L, L', F, hI⟩ := hh
  obtain ⟨M1, r1, r2, hcase⟩ := isHere_ok hm hI x2
  have d4 := hI.2.2.2.1.2.2.2.1
  unfold X5_parentOf_b5 X6_parentOf X6_asks
  rcases hcase with ⟨p, hp, rfl, hpt, e1, _, e2⟩ | ⟨_, e1, _, e2⟩
  · rw [e1, e2, bs, bs, if_pos rfl, parentAt_ok d4.2.1 hp, bs]
    try dsimp only
    unfold X6_asks_b7 X6_asks_b15 X6_asks_b18 X6_asks_b30
    rw [if_neg (by decide), up_s, upd_s, if_pos rfl, if_pos (by decide), bs]
    try dsimp only
    unfold X6_parentOf_b6 X6_parentOf_b19
    rw [if_neg (by decide), if_pos (in42 hp), cl42 hp]
    refine samq_ok h r2.qm ?_
    rw [up_n (by decide), r1.2.1 p hp (nI_nn (by omega)) hpt]
    exact paI_th hpt
  · rw [e1, e2, bs, bs, if_neg (by decide)]
    try dsimp only
    unfold X6_asks_b7 X6_asks_b15 X6_asks_b18 X6_asks_b30
    rw [if_pos rfl, up_s, upd_s, if_neg (by decide), if_pos (by decide), bs]
    try dsimp only
    unfold X6_parentOf_b6 X6_parentOf_b19
    rw [if_pos rfl]
    exact samq_err (k := 1) h r2.qm (by decide) (by decide)
theorem labelAt_ok {S : St} {T : AT} {k : Nat} (h4 : E4 S T) (hk : k < 42) : X4_labelAt S (nI k) = some (oI (tLa T k)) := by
  unfold X4_labelAt
  rw [at_in hk (by decide), bs, h4 k hk]
theorem api_labelOf {m : Nat} {S M : St} (hm : m < 2) (h : INV m S M) (x2 : Int32) : SAMQ m S (X5_labelOf_b5 S x2) (X6_labelOf M (nI m) x2) := by
  have hh := h
  obtain ⟨n, lg, tm, mk, bt, N, A, L, L', F, hI⟩ := hh
  obtain ⟨M1, r1, r2, hcase⟩ := isHere_ok hm hI x2
  have d4 := hI.2.2.2.1.2.2.2.1
  unfold X5_labelOf_b5 X6_labelOf X6_asks
  rcases hcase with ⟨p, hp, rfl, hpt, e1, _, e2⟩ | ⟨_, e1, _, e2⟩
  · rw [e1, e2, bs, bs, if_pos rfl, labelAt_ok d4.2.2.1 hp, bs]
    try dsimp only
    unfold X6_asks_b7 X6_asks_b15 X6_asks_b18 X6_asks_b30
    rw [if_neg (by decide), up_s, upd_s, if_pos rfl, if_pos (by decide), bs]
    try dsimp only
    unfold X6_labelOf_b6 X6_labelOf_b19
    rw [if_neg (by decide), if_pos (in42 hp), cl42 hp]
    refine samq_ok h r2.qm ?_
    rw [up_n (by decide), r1.2.2.1 p hp]
  · rw [e1, e2, bs, bs, if_neg (by decide)]
    try dsimp only
    unfold X6_asks_b7 X6_asks_b15 X6_asks_b18 X6_asks_b30
    rw [if_pos rfl, up_s, upd_s, if_neg (by decide), if_pos (by decide), bs]
    try dsimp only
    unfold X6_labelOf_b6 X6_labelOf_b19
    rw [if_pos rfl]
    exact samq_err (k := 1) h r2.qm (by decide) (by decide)
theorem api_value {m : Nat} {S M : St} (hm : m < 2) (h : INV m S M) (x2 x3 : Int32) : SAMQ m S (X5_value_b5 S x2 x3) (X6_value M (nI m) x2 x3) := by
  have hh := h
  obtain ⟨n, lg, tm, mk, bt, N, A, L, L', F, hI⟩ := hh
  obtain ⟨M1, r1, r2, hcase⟩ := isHere_ok hm hI x2
  have d4 := hI.2.2.2.1.2.2.2.1
  unfold X5_value_b5 X6_value
  rcases hcase with ⟨p, hp, rfl, hpt, e1, _, e2⟩ | ⟨_, e1, _, e2⟩
  · rw [e1, e2, bs, bs, if_pos rfl]
    try dsimp only
    unfold X6_value_b7 X6_value_b23 X6_value_b24 X6_value_b27 X6_value_b48
    rw [if_neg (by decide)]
    rcases ix_4 x3 with ⟨w, hw, rfl, e3, e4⟩ | ⟨_, e3, e4⟩
    · rw [e3, e4, bs, bs, if_pos rfl, if_neg (by decide), valueAt_ok hp hw d4.2.2.2.2, bs, e25, if_pos (by decide), ix4', if_pos (in168 (by omega)), clN (by omega)]
      refine samq_ok h r2.qm ?_
      rw [up_n (by decide), r1.2.2.2.2 _ (by omega)]
    · rw [e3, e4, bs, bs, if_neg (by decide), if_pos rfl, up_s, upd_s, if_neg (by decide)]
      exact samq_err (k := 1) h r2.qm (by decide) (by decide)
  · rw [e1, e2, bs, bs, if_neg (by decide)]
    try dsimp only
    unfold X6_value_b7 X6_value_b23 X6_value_b24 X6_value_b27 X6_value_b48
    rw [if_pos rfl, up_s, upd_s, if_neg (by decide)]
    exact samq_err (k := 1) h r2.qm (by decide) (by decide)
