/-! CLASS 3: the calls that make a change -/
theorem oI_rng {o : Option Nat} (ho : ∀ k, o = some k → k < 10) : ¬ oI o < -1 ∧ oI o ≤ 9 := by
  have key : ∀ k, k < 10 → ¬ nI k < -1 ∧ nI k ≤ 9 := by decide
  cases o with
  | none => decide
  | some k => exact key k (ho k rfl)
theorem arg99 {l : Nat} (hl : l < 100) : X5_checkArgument (nI l) 0 99 = some 0 := arg_in (nI_pos (by omega)) (nI_le (b := 99) (by omega) (by decide))
theorem free_no {S : St} {T : AT} {p l : Nat} {e : Int32} (hp : p < 42) (hl : l < 100) (h3 : E3 S T (-1)) (h4 : E4 S T) (w1 : W1 T) (w3 : W3 T) (h : anyHit T p (some l) e = false) : X5_checkLabelIsFree S (nI p) (nI l) e = some 0 := by
  unfold X5_checkLabelIsFree
  rcases cwl_ok (l := some l) (e := e) hp (E3.all h3 _) h4 w1 w3 (w3_of (x := 0) (by omega)) with ⟨z, hz, hzh, _⟩ | ⟨_, e9⟩
  · rw [anyHit_no h hz] at hzh
    exact absurd hzh (by decide)
  · rw [show nI l = oI (some l) from rfl, e9, bs, if_pos rfl]
theorem free_yes {S : St} {T : AT} {p l k : Nat} {e : Int32} (hp : p < 42) (hl : l < 100) (h3 : E3 S T (-1)) (h4 : E4 S T) (w1 : W1 T) (w3 : W3 T) (hk : k < 42) (h : hit T p (some l) e k = true) : X5_checkLabelIsFree S (nI p) (nI l) e = some 3 := by
  unfold X5_checkLabelIsFree
  rcases cwl_ok (l := some l) (e := e) hp (E3.all h3 _) h4 w1 w3 (w3_of (x := 0) (by omega)) with ⟨z, hz, _, e9⟩ | ⟨hno, _⟩
  · rw [show nI l = oI (some l) from rfl, e9, bs, if_neg (nI_nn (by omega))]
  · rw [hno k hk] at h
    exact absurd h (by decide)
theorem kid_no {S : St} {T : AT} {p : Nat} (hp : p < 42) (w1 : W1 T) (h3 : E3 S T (-1)) (h : ∀ k, k < 42 → ¬ (tTh T k = true ∧ k ≠ 0 ∧ tPa T k = p)) : X4_hasChild S (nI p) = some 0 := by
  unfold X4_hasChild X4_hasChild_L2
  have key := wl_find (f := fun a' : (Int32 × Int32) => X4_hasChild_H2 S a'.1 a'.2) (N := 42) (fun j => (nI p, nI j)) (fun j => decide (paI T j = nI p)) (fun _ => (1 : Int32)) (r := 0) (by decide) (fun j hj => ?_) ?_
  · rcases key with ⟨k, hk, hP, _, _⟩ | ⟨_, h⟩
    · exact absurd ((paI_eq hp (w1 k hk)).mp (of_decide_eq_true hP)) (h k hk)
    · exact h
  · show X4_hasChild_H2 S (nI p) (nI j) = if decide (paI T j = nI p) = true then _ else _
    unfold X4_hasChild_H2 X4_hasChild_b18
    rw [if_neg (ge42 hj), if_pos (in42 hj), cl42 hj, h3 j hj (nI_nn (by omega))]
    by_cases q : paI T j = nI p
    · rw [if_pos q, if_pos (decide_eq_true q)]
      rfl
    · rw [if_neg q, if_neg (by rw [decide_eq_true_eq]; exact q), nI_succ]
  · show X4_hasChild_H2 S (nI p) (nI 42) = _
    unfold X4_hasChild_H2
    rw [if_pos le42]
    rfl
theorem kid_yes {S : St} {T : AT} {p z : Nat} (hp : p < 42) (w1 : W1 T) (h3 : E3 S T (-1)) (hz : z < 42) (h : tTh T z = true ∧ z ≠ 0 ∧ tPa T z = p) : X4_hasChild S (nI p) = some 1 := by
  unfold X4_hasChild X4_hasChild_L2
  have key := wl_find (f := fun a' : (Int32 × Int32) => X4_hasChild_H2 S a'.1 a'.2) (N := 42) (fun j => (nI p, nI j)) (fun j => decide (paI T j = nI p)) (fun _ => (1 : Int32)) (r := 0) (by decide) (fun j hj => ?_) ?_
  · rcases key with ⟨k, hk, hP, _, h⟩ | ⟨hn, _⟩
    · exact h
    · exact absurd ((paI_eq hp (w1 z hz)).mpr h) (of_decide_eq_false (hn z hz))
  · show X4_hasChild_H2 S (nI p) (nI j) = if decide (paI T j = nI p) = true then _ else _
    unfold X4_hasChild_H2 X4_hasChild_b18
    rw [if_neg (ge42 hj), if_pos (in42 hj), cl42 hj, h3 j hj (nI_nn (by omega))]
    by_cases q : paI T j = nI p
    · rw [if_pos q, if_pos (decide_eq_true q)]
      rfl
    · rw [if_neg q, if_neg (by rw [decide_eq_true_eq]; exact q), nI_succ]
  · show X4_hasChild_H2 S (nI p) (nI 42) = _
    unfold X4_hasChild_H2
    rw [if_pos le42]
    rfl
theorem fix_no {p : Nat} (hp : p < 42) (h : 2 ≤ p) : X5_checkIsNotFixed (nI p) = some 0 := by
  rcases fixed_ok hp with ⟨_, e, _⟩ | ⟨_, e⟩
  · exact e
  · have : ∀ p, p < 42 → 2 ≤ p → ¬ nI p < 2 := by decide
    exact absurd e (this p hp h)
theorem fix_yes {p : Nat} (h : p < 2) : X5_checkIsNotFixed (nI p) = some 3 := by
  have : p = 0 ∨ p = 1 := by omega
  rcases this with rfl | rfl <;> decide
section IC3
variable {m n F t p l i q w : Nat} {S : St} {lg : Nat → CH} {tm mk bt N A fk fa fb : Nat → Nat} {L L' : List Nat} {rg rf : Nat → Int32} {o : Option Nat}
theorem ic_add (hm : m < 2) (hI : IC m S n lg tm mk bt N A L L' F fk fa fb rg rf) (hn : n < 40) (ht : t = mxT bt tm m n + 1) (hp : p < 42) (hpt : tTh (repl A lg L) p = true) (hl : l < 100) (hi : i < 3) (hno : anyHit (repl A lg L) p (some l) (-1) = false) : ∃ S', X5_add_b5 S (nI p) (nI l) (nI i) = some (0, nI (n + 2), S') ∧ IC m S' (n + 1) (fu lg n (0, n + 2, p, l, i, none)) (fu tm n t) (fu mk n m) (fu bt n (2 ^ m)) N A (L ++ [n]) L' F fk fa fb rg rf := by
  obtain ⟨⟨a, _⟩, he, dT, _, _, _, _, _⟩ := id hI
  obtain ⟨_, _, d3, d4, _⟩ := id dT
  obtain ⟨wf, wc, wth⟩ := hI.wf
  have en2 : nI n + 2 = nI (n + 2) := nI_add n 2
  have e3 : X5_checkIndex (nI i) 3 = some 0 := ix_in (n := 3) hi (by decide)
  unfold X5_add_b5
  rw [hI.ein hp hpt, bs, if_pos rfl, e3, bs, if_pos rfl, arg99 hl, bs, if_pos rfl, room_in hI hn, bs, if_pos rfl, free_no hp hl d4.2.1 d4.2.2.1 wf.2.1 wf.2.2.2.1 hno, bs, if_pos rfl, stamp_ok a hm he dT, bs, he.1, en2]
  obtain ⟨S1, f0, f1, f2, f3, f15, f16, f17, f18, f19, f20⟩ := append_ok 0 (nI (2 * (mxT bt tm m n + 1) + m)) (nI (n + 2)) (nI p) (nI l) (nI i) he.1 hn
  have pn : p ≠ n + 2 := fun q => by
    have := (d3.2 n).mp (by have z := wth p (by omega) hpt; rw [q] at z; exact z)
    omega
  obtain ⟨S2, k0, k1, _⟩ := newc_ok (S1 := S1) (c0 := (0, n + 2, p, l, i, none)) hm hn hI ht ⟨(show (0 : Nat) < 4 by decide), (show n + 2 < 42 by omega), hp, hl, fun _ => ⟨rfl, pn, hi⟩, fun q => nkx q rfl, fun q => nkx q rfl, fun q => nkx q rfl⟩ f1 f2 f3 ⟨f15, f17, fun _ => ⟨f18, f19, f20⟩, fun q => nkx q rfl, fun q => nkx q rfl⟩ (by rw [ht]; exact f16)
  rw [f0, bs]
  unfold X5_add_b70 X5_add_b73
  rw [k0, bs]
  exact ⟨S2, rfl, k1⟩
theorem ic_add_hit {k : Nat} (hI : IC m S n lg tm mk bt N A L L' F fk fa fb rg rf) (hn : n < 40) (hp : p < 42) (hpt : tTh (repl A lg L) p = true) (hl : l < 100) (hi : i < 3) (hk : k < 42) (hh : hit (repl A lg L) p (some l) (-1) k = true) : X5_add_b5 S (nI p) (nI l) (nI i) = some (3, 0, S) := by
  obtain ⟨_, _, dT, _, _, _, _, _⟩ := id hI
  obtain ⟨_, _, d3, d4, _⟩ := id dT
  obtain ⟨wf, wc, wth⟩ := hI.wf
  have e3 : X5_checkIndex (nI i) 3 = some 0 := ix_in (n := 3) hi (by decide)
  unfold X5_add_b5
  rw [hI.ein hp hpt, bs, if_pos rfl, e3, bs, if_pos rfl, arg99 hl, bs, if_pos rfl, room_in hI hn, bs, if_pos rfl, free_yes hp hl d4.2.1 d4.2.2.1 wf.2.1 wf.2.2.2.1 hk hh, bs, if_neg (by decide)]
theorem ic_add_full (hI : IC m S n lg tm mk bt N A L L' F fk fa fb rg rf) (hn : n = 40) (hp : p < 42) (hpt : tTh (repl A lg L) p = true) (hl : l < 100) (hi : i < 3) : X5_add_b5 S (nI p) (nI l) (nI i) = some (3, 0, S) := by
  have e3 : X5_checkIndex (nI i) 3 = some 0 := ix_in (n := 3) hi (by decide)
  unfold X5_add_b5
  rw [hI.ein hp hpt, bs, if_pos rfl, e3, bs, if_pos rfl, arg99 hl, bs, if_pos rfl, room_out hI hn, bs, if_neg (by decide)]
theorem ic_set (hm : m < 2) (hI : IC m S n lg tm mk bt N A L L' F fk fa fb rg rf) (hn : n < 40) (ht : t = mxT bt tm m n + 1) (hp : p < 42) (hpt : tTh (repl A lg L) p = true) (hw : w < 4) (ho : ∀ k, o = some k → k < 10) (hmay : (A (tIt (repl A lg L) p)).testBit w = true) : ∃ S', X5_set_b5 S (nI p) (nI w) (oI o) = some (0, oI (tVa (repl A lg L) (4 * p + w)), S') ∧ IC m S' (n + 1) (fu lg n (1, p, 0, 0, w, o)) (fu tm n t) (fu mk n m) (fu bt n (2 ^ m)) N A (L ++ [n]) L' F fk fa fb rg rf := by
  obtain ⟨⟨a, _⟩, he, dT, _, fA, _, _, _⟩ := id hI
  obtain ⟨_, _, d3, d4, _⟩ := id dT
  obtain ⟨wf, wc, wth⟩ := hI.wf
  have e4 : X5_checkIndex (nI w) 4 = some 0 := ix_in (n := 4) hw (by decide)
  unfold X5_set_b5
  rw [hI.ein hp hpt, bs, if_pos rfl, e4, bs, if_pos rfl, arg_in (oI_rng ho).1 (oI_rng ho).2, bs, if_pos rfl, room_in hI hn, bs, if_pos rfl, mayHold_ok hp hw wf.2.2.2.2.1 d4.2.2.2.1 fA, hmay, bs, if_neg bit1, valueAt_ok hp hw d4.2.2.2.2, bs, stamp_ok a hm he dT, bs]
  obtain ⟨S1, f0, f1, f2, f3, f15, f16, f17, f18, f19, f20⟩ := append_ok 1 (nI (2 * (mxT bt tm m n + 1) + m)) (nI p) (nI w) (oI o) (-1) he.1 hn
  obtain ⟨S2, k0, k1, _⟩ := newc_ok (S1 := S1) (c0 := (1, p, 0, 0, w, o)) hm hn hI ht ⟨(show (1 : Nat) < 4 by decide), hp, (show (0 : Nat) < 42 by decide), (show (0 : Nat) < 100 by decide), fun q => nkx q rfl, fun _ => ⟨hw, ho⟩, fun q => nkx q rfl, fun q => nkx q rfl⟩ f1 f2 f3 ⟨f15, f17, fun q => nkx q rfl, fun _ => ⟨f18, f19⟩, fun q => nkx q rfl⟩ (by rw [ht]; exact f16)
  rw [f0, bs]
  unfold X5_set_b79 X5_set_b82
  rw [k0, bs]
  exact ⟨S2, rfl, k1⟩
theorem ic_set_no (hI : IC m S n lg tm mk bt N A L L' F fk fa fb rg rf) (hn : n < 40) (hp : p < 42) (hpt : tTh (repl A lg L) p = true) (hw : w < 4) (ho : ∀ k, o = some k → k < 10) (hmay : (A (tIt (repl A lg L) p)).testBit w = false) : X5_set_b5 S (nI p) (nI w) (oI o) = some (3, 0, S) := by
  obtain ⟨⟨a, _⟩, he, dT, _, fA, _, _, _⟩ := id hI
  obtain ⟨_, _, d3, d4, _⟩ := id dT
  obtain ⟨wf, wc, wth⟩ := hI.wf
  have e4 : X5_checkIndex (nI w) 4 = some 0 := ix_in (n := 4) hw (by decide)
  unfold X5_set_b5
  rw [hI.ein hp hpt, bs, if_pos rfl, e4, bs, if_pos rfl, arg_in (oI_rng ho).1 (oI_rng ho).2, bs, if_pos rfl, room_in hI hn, bs, if_pos rfl, mayHold_ok hp hw wf.2.2.2.2.1 d4.2.2.2.1 fA, hmay, bs, if_pos bit0]
theorem ic_set_full (hI : IC m S n lg tm mk bt N A L L' F fk fa fb rg rf) (hn : n = 40) (hp : p < 42) (hpt : tTh (repl A lg L) p = true) (hw : w < 4) (ho : ∀ k, o = some k → k < 10) : X5_set_b5 S (nI p) (nI w) (oI o) = some (3, 0, S) := by
  have e4 : X5_checkIndex (nI w) 4 = some 0 := ix_in (n := 4) hw (by decide)
  unfold X5_set_b5
  rw [hI.ein hp hpt, bs, if_pos rfl, e4, bs, if_pos rfl, arg_in (oI_rng ho).1 (oI_rng ho).2, bs, if_pos rfl, room_out hI hn, bs, if_neg (by decide)]
theorem ic_move (hm : m < 2) (hI : IC m S n lg tm mk bt N A L L' F fk fa fb rg rf) (hn : n < 40) (ht : t = mxT bt tm m n + 1) (hp2 : 2 ≤ p) (hp : p < 42) (hpt : tTh (repl A lg L) p = true) (hq : q < 42) (hqt : tTh (repl A lg L) q = true) (hl : l < 100) (hb : bel (repl A lg L) q p = false) (hno : anyHit (repl A lg L) q (some l) (nI p) = false) : ∃ S', X5_move_b5 S (nI p) (nI q) (nI l) = some (0, nI (tPa (repl A lg L) p), S') ∧ IC m S' (n + 1) (fu lg n (2, p, q, l, 0, none)) (fu tm n t) (fu mk n m) (fu bt n (2 ^ m)) N A (L ++ [n]) L' F fk fa fb rg rf := by
  obtain ⟨⟨a, _⟩, he, dT, _, _, _, _, _⟩ := id hI
  obtain ⟨_, _, d3, d4, _⟩ := id dT
  obtain ⟨wf, wc, wth⟩ := hI.wf
  have epa : paI (repl A lg L) p = nI (tPa (repl A lg L) p) := if_pos ⟨hpt, by omega⟩
  unfold X5_move_b5
  rw [hI.ein hp hpt, bs, if_pos rfl, hI.ein hq hqt, bs, if_pos rfl, arg99 hl, bs, if_pos rfl, room_in hI hn, bs, if_pos rfl, fix_no hp hp2, bs, if_pos rfl, below_ok (show p ≠ 0 by omega) hp hq hpt wf.1 wf.2.1 wf.2.2.1 wc d4.2.1, hqt, hb, Bool.true_and, bs, if_pos bit0, free_no hq hl d4.2.1 d4.2.2.1 wf.2.1 wf.2.2.2.1 hno, bs, if_pos rfl, parentAt_ok d4.2.1 hp, bs, stamp_ok a hm he dT, bs, epa]
  obtain ⟨S1, f0, f1, f2, f3, f15, f16, f17, f18, f19, f20⟩ := append_ok 2 (nI (2 * (mxT bt tm m n + 1) + m)) (nI p) (nI q) (nI l) (-1) he.1 hn
  obtain ⟨S2, k0, k1, _⟩ := newc_ok (S1 := S1) (c0 := (2, p, q, l, 0, none)) hm hn hI ht ⟨(show (2 : Nat) < 4 by decide), hp, hq, hl, fun q => nkx q rfl, fun q => nkx q rfl, fun _ => hp2, fun q => nkx q rfl⟩ f1 f2 f3 ⟨f15, f17, fun q => nkx q rfl, fun q => nkx q rfl, fun _ => ⟨f18, f19⟩⟩ (by rw [ht]; exact f16)
  rw [f0, bs]
  unfold X5_move_b92 X5_move_b95
  rw [k0, bs]
  exact ⟨S2, rfl, k1⟩
theorem ic_move_below (hI : IC m S n lg tm mk bt N A L L' F fk fa fb rg rf) (hn : n < 40) (hp2 : 2 ≤ p) (hp : p < 42) (hpt : tTh (repl A lg L) p = true) (hq : q < 42) (hqt : tTh (repl A lg L) q = true) (hl : l < 100) (hb : bel (repl A lg L) q p = true) : X5_move_b5 S (nI p) (nI q) (nI l) = some (3, 0, S) := by
  obtain ⟨_, _, dT, _, _, _, _, _⟩ := id hI
  obtain ⟨_, _, d3, d4, _⟩ := id dT
  obtain ⟨wf, wc, wth⟩ := hI.wf
  unfold X5_move_b5
  rw [hI.ein hp hpt, bs, if_pos rfl, hI.ein hq hqt, bs, if_pos rfl, arg99 hl, bs, if_pos rfl, room_in hI hn, bs, if_pos rfl, fix_no hp hp2, bs, if_pos rfl, below_ok (show p ≠ 0 by omega) hp hq hpt wf.1 wf.2.1 wf.2.2.1 wc d4.2.1, hqt, hb, Bool.true_and, bs, if_neg bit1]
theorem ic_delete {z : Nat} (hm : m < 2) (hI : IC m S n lg tm mk bt N A L L' F fk fa fb rg rf) (hn : n < 40) (ht : t = mxT bt tm m n + 1) (hp2 : 2 ≤ p) (hp : p < 42) (hpt : tTh (repl A lg L) p = true) (hk : ∀ k, k < 42 → ¬ (tTh (repl A lg L) k = true ∧ k ≠ 0 ∧ tPa (repl A lg L) k = p)) (hz : cntF (tTh (repl A lg L)) 42 = z + 1) : ∃ S', X5_delete_b5 S (nI p) = some (0, nI z, S') ∧ IC m S' (n + 1) (fu lg n (3, p, 0, 0, 0, none)) (fu tm n t) (fu mk n m) (fu bt n (2 ^ m)) N A (L ++ [n]) L' F fk fa fb rg rf := by
  obtain ⟨⟨a, _⟩, he, dT, _, _, _, _, _⟩ := id hI
  obtain ⟨_, _, d3, d4, _⟩ := id dT
  obtain ⟨wf, wc, wth⟩ := hI.wf
  unfold X5_delete_b5
  rw [hI.ein hp hpt, bs, if_pos rfl, room_in hI hn, bs, if_pos rfl, fix_no hp hp2, bs, if_pos rfl, kid_no hp wf.2.1 d4.2.1 hk, bs, if_pos rfl, stamp_ok a hm he dT, bs]
  obtain ⟨S1, f0, f1, f2, f3, f15, f16, f17, f18, f19, f20⟩ := append_ok 3 (nI (2 * (mxT bt tm m n + 1) + m)) (nI p) (-1) (-1) (-1) he.1 hn
  obtain ⟨S2, k0, k1, k3⟩ := newc_ok (S1 := S1) (c0 := (3, p, 0, 0, 0, none)) hm hn hI ht ⟨(show (3 : Nat) < 4 by decide), hp, (show (0 : Nat) < 42 by decide), (show (0 : Nat) < 100 by decide), fun q => nkx q rfl, fun q => nkx q rfl, fun q => nkx q rfl, fun _ => hp2⟩ f1 f2 f3 ⟨f15, f17, fun q => nkx q rfl, fun q => nkx q rfl, fun q => nkx q rfl⟩ (by rw [ht]; exact f16)
  have e : tTh (stepC A (repl A lg L) (3, p, 0, 0, 0, none)) = fu (tTh (repl A lg L)) p false := tTh_stepD hpt
  have e' := cntF_del hpt 42
  rw [if_pos hp] at e'
  rw [e, show cntF (fu (tTh (repl A lg L)) p false) 42 = z by omega] at k3
  rw [f0, bs]
  unfold X5_delete_b54 X5_delete_b57
  rw [k0, bs, k3]
  exact ⟨S2, rfl, k1⟩
theorem ic_delete_kid {z : Nat} (hI : IC m S n lg tm mk bt N A L L' F fk fa fb rg rf) (hn : n < 40) (hp2 : 2 ≤ p) (hp : p < 42) (hpt : tTh (repl A lg L) p = true) (hz : z < 42) (hk : tTh (repl A lg L) z = true ∧ z ≠ 0 ∧ tPa (repl A lg L) z = p) : X5_delete_b5 S (nI p) = some (3, 0, S) := by
  obtain ⟨_, _, dT, _, _, _, _, _⟩ := id hI
  obtain ⟨_, _, d3, d4, _⟩ := id dT
  obtain ⟨wf, wc, wth⟩ := hI.wf
  unfold X5_delete_b5
  rw [hI.ein hp hpt, bs, if_pos rfl, room_in hI hn, bs, if_pos rfl, fix_no hp hp2, bs, if_pos rfl, kid_yes hp wf.2.1 d4.2.1 hz hk, bs, if_neg (by decide)]
end IC3
