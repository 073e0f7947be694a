/-! CLASS 7: the state as one value, and the calls at either master -/
abbrev VT : Type := (Nat × (Nat → CH) × (Nat → Nat) × (Nat → Nat) × (Nat → Nat)) × ((Nat → Nat) × (Nat → Nat)) × (List Nat × List Nat) × (Nat × (Nat → Nat) × (Nat → Nat) × (Nat → Nat)) × ((Nat → Int32) × (Nat → Int32))
def vN (V : VT) : Nat := V.1.1
def vLg (V : VT) : Nat → CH := V.1.2.1
def vTm (V : VT) : Nat → Nat := V.1.2.2.1
def vMk (V : VT) : Nat → Nat := V.1.2.2.2.1
def vBt (V : VT) : Nat → Nat := V.1.2.2.2.2
def vNe (V : VT) : Nat → Nat := V.2.1.1
def vAl (V : VT) : Nat → Nat := V.2.1.2
def vL (V : VT) : List Nat := V.2.2.1.1
def vK (V : VT) : List Nat := V.2.2.1.2
def vF (V : VT) : Nat := V.2.2.2.1.1
def vFk (V : VT) : Nat → Nat := V.2.2.2.1.2.1
def vFa (V : VT) : Nat → Nat := V.2.2.2.1.2.2.1
def vFb (V : VT) : Nat → Nat := V.2.2.2.1.2.2.2
def vRg (V : VT) : Nat → Int32 := V.2.2.2.2.1
def vRf (V : VT) : Nat → Int32 := V.2.2.2.2.2
def vT0 (V : VT) : AT := repl (vAl V) (vLg V) (vL V)
def vT1 (V : VT) : AT := repl (vAl V) (vLg V) (vK V)
def CS (S : St) (V : VT) : Prop := IC 0 S (vN V) (vLg V) (vTm V) (vMk V) (vBt V) (vNe V) (vAl V) (vL V) (vK V) (vF V) (vFk V) (vFa V) (vFb V) (vRg V) (vRf V)
theorem CS.sw {S : St} {V : VT} (h : CS S V) : IC 1 (swS S) (vN V) (vLg V) (vTm V) (vMk V) (vBt V) (vNe V) (vAl V) (vK V) (vL V) (vF V) (vFk V) (vFa V) (vFb V) (vRg V) (vRf V) := IC.swap (m := 0) (by decide) h
theorem CS.un {S : St} {V : VT} (h : IC 1 S (vN V) (vLg V) (vTm V) (vMk V) (vBt V) (vNe V) (vAl V) (vK V) (vL V) (vF V) (vFk V) (vFa V) (vFb V) (vRg V) (vRf V)) : CS (swS S) V := IC.swap (m := 1) (by decide) h
/-- a new change at master m: its time t, the change c0, the two lists of what is known then -/
def vNew (V : VT) (m t : Nat) (c0 : CH) (L K : List Nat) : VT := ((vN V + 1, fu (vLg V) (vN V) c0, fu (vTm V) (vN V) t, fu (vMk V) (vN V) m, fu (vBt V) (vN V) (2 ^ m)), V.2.1, (L, K), V.2.2.2)
def vCar (V : VT) (m c : Nat) (L K : List Nat) : VT := ((vN V, vLg V, vTm V, vMk V, fu (vBt V) c (vBt V c ||| 2 ^ m)), V.2.1, (L, K), V.2.2.2)
def vCls (V : VT) (i a b : Nat) : VT := (V.1, (fu (vNe V) i a, fu (vAl V) i (b ||| a)), V.2.2)
def vFil (V : VT) (k a b : Nat) : VT := (V.1, V.2.1, V.2.2.1, (vF V + 1, fu (vFk V) (vF V) k, fu (vFa V) (vF V) a, fu (vFb V) (vF V) b), V.2.2.2.2)
def vRig (V : VT) (i k : Nat) (v : Int32) : VT := (V.1, V.2.1, V.2.2.1, V.2.2.2.1, (fu (vRg V) (42 * i + k) v, vRf V))
def vRef (V : VT) (k : Nat) (b : Bool) : VT := (V.1, V.2.1, V.2.2.1, V.2.2.2.1, (vRg V, fu (vRf V) k (bI b)))
/-- a new object -/
def vv0 : VT := ((0, fun _ => (0, 0, 0, 0, 0, none), fun _ => 0, fun _ => 0, fun _ => 0), (fun _ => 0, fun _ => 15), ([], []), (0, fun _ => 0, fun _ => 0, fun _ => 0), (fun _ => -1, fun _ => 0))
def sE (A B : St) (fc fr : Nat → Int32) : St := fun k => if k < 7 then A k else if k < 14 then B (k - 7) else if k = 23 then fc else if k = 25 then fr else fun _ => 0
theorem init_CS {A B : St} {fc fr' : Nat → Int32} (hA : X4_clear (tz 0) = some A) (hB : X4_clear (tz 1) = some B) (hc : ∀ i, i < 3 → fc i = 15) (hr : ∀ i, i < 126 → fr' i = -1) : CS (sE A B fc fr') vv0 := by
  obtain ⟨A', e1, a1, a2, a3⟩ := clear_ok (tz 0)
  obtain ⟨B', e2, b1, b2, b3⟩ := clear_ok (tz 1)
  have hA' : A' = A := Option.some.inj (e1.symm.trans hA)
  have hB' : B' = B := Option.some.inj (e2.symm.trans hB)
  subst hA'
  subst hB'
  have sA : ∀ k, k < 7 → sE A' B' fc fr' k = A' k := fun k hk => if_pos hk
  have sB : ∀ k, k < 7 → swS (sE A' B' fc fr') k = B' k := fun k hk => by
    show sE A' B' fc fr' (sw k) = B' k
    rw [sw_lo hk]
    unfold sE
    rw [if_neg (by omega), if_pos (by omega), Nat.add_sub_cancel]
  have t1 : TR A' 0 0 (fun _ => (0, 0, 0, 0, 0, none)) (fun _ => 0) (stp (fun _ => 0) (fun _ => 0)) (fun _ => 15) [] := ⟨by rw [a3.2 0 (by decide)]; rfl, ⟨by rw [a3.2 4 (by decide)]; rfl, (fun i c q => nomatch q)⟩, ⟨List.Pairwise.nil, fun c => ⟨(fun q => nomatch q), fun q => absurd q.1 (Nat.not_lt_zero c)⟩⟩, a1, a2⟩
  have t2 : TR B' 1 0 (fun _ => (0, 0, 0, 0, 0, none)) (fun _ => 0) (stp (fun _ => 0) (fun _ => 0)) (fun _ => 15) [] := ⟨by rw [b3.2 0 (by decide)]; rfl, ⟨by rw [b3.2 4 (by decide)]; rfl, (fun i c q => nomatch q)⟩, ⟨List.Pairwise.nil, fun c => ⟨(fun q => nomatch q), fun q => absurd q.1 (Nat.not_lt_zero c)⟩⟩, b1, b2⟩
  exact ⟨⟨⟨by decide, fun c hc => absurd hc (Nat.not_lt_zero c), fun c _ hc => absurd hc (Nat.not_lt_zero c)⟩, fun c hc => absurd hc (Nat.not_lt_zero c)⟩, ⟨rfl, fun c hc => absurd hc (Nat.not_lt_zero c)⟩, t1.fr sA, t2.fr sB, fun i hi => ⟨rfl, (show (0 : Nat) < 16 by decide), hc i hi, (show (15 : Nat) < 16 by decide)⟩, ⟨fun k hk => ⟨hr k hk, .inl rfl⟩, fun k hk => rfl⟩, rfl, by decide, fun j hj => absurd hj (Nat.not_lt_zero j)⟩
theorem tp0_add {S : St} {x2 x3 x4 : Int32} : X5_add S (nI 0) x2 x3 x4 = X5_add_b5 S x2 x3 x4 := by
  unfold X5_add
  rw [treeOf_0, bs, if_pos rfl, cond_false]
theorem tp1_add {S : St} {x2 x3 x4 : Int32} : X5_add S (nI 1) x2 x3 x4 = (X5_add_b5 (swS S) x2 x3 x4).map unz := by
  unfold X5_add
  rw [treeOf_1, bs, if_pos rfl, cond_true]
theorem tp0_set {S : St} {x2 x3 x4 : Int32} : X5_set S (nI 0) x2 x3 x4 = X5_set_b5 S x2 x3 x4 := by
  unfold X5_set
  rw [treeOf_0, bs, if_pos rfl, cond_false]
theorem tp1_set {S : St} {x2 x3 x4 : Int32} : X5_set S (nI 1) x2 x3 x4 = (X5_set_b5 (swS S) x2 x3 x4).map unz := by
  unfold X5_set
  rw [treeOf_1, bs, if_pos rfl, cond_true]
theorem tp0_move {S : St} {x2 x3 x4 : Int32} : X5_move S (nI 0) x2 x3 x4 = X5_move_b5 S x2 x3 x4 := by
  unfold X5_move
  rw [treeOf_0, bs, if_pos rfl, cond_false]
theorem tp1_move {S : St} {x2 x3 x4 : Int32} : X5_move S (nI 1) x2 x3 x4 = (X5_move_b5 (swS S) x2 x3 x4).map unz := by
  unfold X5_move
  rw [treeOf_1, bs, if_pos rfl, cond_true]
theorem tp0_delete {S : St} {x2 : Int32} : X5_delete S (nI 0) x2 = X5_delete_b5 S x2 := by
  unfold X5_delete
  rw [treeOf_0, bs, if_pos rfl, cond_false]
theorem tp1_delete {S : St} {x2 : Int32} : X5_delete S (nI 1) x2 = (X5_delete_b5 (swS S) x2).map unz := by
  unfold X5_delete
  rw [treeOf_1, bs, if_pos rfl, cond_true]
theorem tp0_holds {S : St} {x2 x3 : Int32} : X5_holds S (nI 0) x2 x3 = X5_holds_b5 S x2 x3 := by
  unfold X5_holds
  rw [treeOf_0, bs, if_pos rfl, cond_false]
theorem tp1_holds {S : St} {x2 x3 : Int32} : X5_holds S (nI 1) x2 x3 = (X5_holds_b5 (swS S) x2 x3).map unz := by
  unfold X5_holds
  rw [treeOf_1, bs, if_pos rfl, cond_true]
theorem tp0_search {S : St} {x2 x3 x4 x5 x6 : Int32} : X5_search S (nI 0) x2 x3 x4 x5 x6 = X5_search_b5 S x2 x3 x4 x5 x6 := by
  unfold X5_search
  rw [treeOf_0, bs, if_pos rfl, cond_false]
theorem tp1_search {S : St} {x2 x3 x4 x5 x6 : Int32} : X5_search S (nI 1) x2 x3 x4 x5 x6 = (X5_search_b5 (swS S) x2 x3 x4 x5 x6).map unz := by
  unfold X5_search
  rw [treeOf_1, bs, if_pos rfl, cond_true]
theorem tp0_entries {S : St} : X5_entries S (nI 0) = X5_entries_b5 S := by
  unfold X5_entries
  rw [treeOf_0, bs, if_pos rfl, cond_false]
theorem tp1_entries {S : St} : X5_entries S (nI 1) = X5_entries_b5 (swS S) := by
  unfold X5_entries
  rw [treeOf_1, bs, if_pos rfl, cond_true]
theorem tp0_isThere {S : St} {x2 : Int32} : X5_isThere S (nI 0) x2 = X5_isThere_b5 S x2 := by
  unfold X5_isThere
  rw [treeOf_0, bs, if_pos rfl, cond_false]
theorem tp1_isThere {S : St} {x2 : Int32} : X5_isThere S (nI 1) x2 = X5_isThere_b5 (swS S) x2 := by
  unfold X5_isThere
  rw [treeOf_1, bs, if_pos rfl, cond_true]
theorem tp0_parentOf {S : St} {x2 : Int32} : X5_parentOf S (nI 0) x2 = X5_parentOf_b5 S x2 := by
  unfold X5_parentOf
  rw [treeOf_0, bs, if_pos rfl, cond_false]
theorem tp1_parentOf {S : St} {x2 : Int32} : X5_parentOf S (nI 1) x2 = X5_parentOf_b5 (swS S) x2 := by
  unfold X5_parentOf
  rw [treeOf_1, bs, if_pos rfl, cond_true]
theorem tp0_labelOf {S : St} {x2 : Int32} : X5_labelOf S (nI 0) x2 = X5_labelOf_b5 S x2 := by
  unfold X5_labelOf
  rw [treeOf_0, bs, if_pos rfl, cond_false]
theorem tp1_labelOf {S : St} {x2 : Int32} : X5_labelOf S (nI 1) x2 = X5_labelOf_b5 (swS S) x2 := by
  unfold X5_labelOf
  rw [treeOf_1, bs, if_pos rfl, cond_true]
theorem tp0_value {S : St} {x2 x3 : Int32} : X5_value S (nI 0) x2 x3 = X5_value_b5 S x2 x3 := by
  unfold X5_value
  rw [treeOf_0, bs, if_pos rfl, cond_false]
theorem tp1_value {S : St} {x2 x3 : Int32} : X5_value S (nI 1) x2 x3 = X5_value_b5 (swS S) x2 x3 := by
  unfold X5_value
  rw [treeOf_1, bs, if_pos rfl, cond_true]
theorem tp0_isWhole {S : St} {x2 : Int32} : X5_isWhole S (nI 0) x2 = X5_isWhole_b5 S x2 := by
  unfold X5_isWhole
  rw [treeOf_0, bs, if_pos rfl, cond_false]
theorem tp1_isWhole {S : St} {x2 : Int32} : X5_isWhole S (nI 1) x2 = X5_isWhole_b5 (swS S) x2 := by
  unfold X5_isWhole
  rw [treeOf_1, bs, if_pos rfl, cond_true]
theorem tp0_find {S : St} {x2 x3 : Int32} : X5_find S (nI 0) x2 x3 = X5_find_b5 S x2 x3 := by
  unfold X5_find
  rw [treeOf_0, bs, if_pos rfl, cond_false]
theorem tp1_find {S : St} {x2 x3 : Int32} : X5_find S (nI 1) x2 x3 = X5_find_b5 (swS S) x2 x3 := by
  unfold X5_find
  rw [treeOf_1, bs, if_pos rfl, cond_true]
theorem tp0_carry {S : St} {n c : Nat} (h : S 14 6 = nI n) (hc : c < n) (hn : n ≤ 40) : X5_carry S (nI c) (nI 0) = X5_carry_b16 S (nI c) := by
  unfold X5_carry
  rw [h, ix_in hc (by omega), bs, if_pos rfl, treeOf_0, bs, if_pos rfl, cond_false]
theorem tp1_carry {S : St} {n c : Nat} (h : S 14 6 = nI n) (hc : c < n) (hn : n ≤ 40) : X5_carry S (nI c) (nI 1) = (X5_carry_b16 (swS S) (nI c)).map unz := by
  unfold X5_carry
  rw [h, ix_in hc (by omega), bs, if_pos rfl, treeOf_1, bs, if_pos rfl, cond_true]
section W7
variable {S : St} {V : VT} {t p l i q w z k x : Nat} {o : Option Nat} {L9 : List Nat} {v : Int32} {b : Bool}
theorem w_add0 (h : CS S V) (c : (vN V < 40 ∧ t = mxT (vBt V) (vTm V) 0 (vN V) + 1 ∧ (vL V) ++ [vN V] = L9) ∧ p < 42 ∧ tTh (vT0 V) p = true ∧ l < 100 ∧ i < 3 ∧ anyHit (vT0 V) p (some l) (-1) = false ∧ vN V + 2 = z) : ∃ S', X5_add S (nI 0) (nI p) (nI l) (nI i) = some (0, nI z, S') ∧ CS S' (vNew V 0 t (0, z, p, l, i, none) L9 (vK V)) := by
  obtain ⟨⟨c1, c2, c3⟩, c4, c5, c6, c7, c8, c9⟩ := c
  subst c9
  subst c3
  obtain ⟨S1, e1, g1⟩ := ic_add (m := 0) (by decide) h c1 c2 c4 c5 c6 c7 c8
  exact ⟨S1, tp0_add.trans e1, g1⟩
theorem w_set0 (h : CS S V) (c : (vN V < 40 ∧ t = mxT (vBt V) (vTm V) 0 (vN V) + 1 ∧ (vL V) ++ [vN V] = L9) ∧ p < 42 ∧ tTh (vT0 V) p = true ∧ w < 4 ∧ o.getD 0 < 10 ∧ (vAl V (tIt (vT0 V) p)).testBit w = true ∧ oI (tVa (vT0 V) (4 * p + w)) = v) : ∃ S', X5_set S (nI 0) (nI p) (nI w) (oI o) = some (0, v, S') ∧ CS S' (vNew V 0 t (1, p, 0, 0, w, o) L9 (vK V)) := by
  obtain ⟨⟨c1, c2, c3⟩, c4, c5, c6, c7, c8, c9⟩ := c
  subst c9
  subst c3
  obtain ⟨S1, e1, g1⟩ := ic_set (m := 0) (o := o) (by decide) h c1 c2 c4 c5 c6 (fun k hk => by rw [hk] at c7; exact c7) c8
  exact ⟨S1, tp0_set.trans e1, g1⟩
theorem w_move0 (h : CS S V) (c : (vN V < 40 ∧ t = mxT (vBt V) (vTm V) 0 (vN V) + 1 ∧ (vL V) ++ [vN V] = L9) ∧ 2 ≤ p ∧ p < 42 ∧ tTh (vT0 V) p = true ∧ q < 42 ∧ tTh (vT0 V) q = true ∧ l < 100 ∧ bel (vT0 V) q p = false ∧ anyHit (vT0 V) q (some l) (nI p) = false ∧ tPa (vT0 V) p = z) : ∃ S', X5_move S (nI 0) (nI p) (nI q) (nI l) = some (0, nI z, S') ∧ CS S' (vNew V 0 t (2, p, q, l, 0, none) L9 (vK V)) := by
  obtain ⟨⟨c1, c2, c3⟩, c4, c5, c6, c7, c8, c9, c10, c11, c12⟩ := c
  subst c12
  subst c3
  obtain ⟨S1, e1, g1⟩ := ic_move (m := 0) (by decide) h c1 c2 c4 c5 c6 c7 c8 c9 c10 c11
  exact ⟨S1, tp0_move.trans e1, g1⟩
theorem w_delete0 (h : CS S V) (c : (vN V < 40 ∧ t = mxT (vBt V) (vTm V) 0 (vN V) + 1 ∧ (vL V) ++ [vN V] = L9) ∧ 2 ≤ p ∧ p < 42 ∧ tTh (vT0 V) p = true ∧ (∀ k, k < 42 → ¬ (tTh (vT0 V) k = true ∧ k ≠ 0 ∧ tPa (vT0 V) k = p)) ∧ cntF (tTh (vT0 V)) 42 = z + 1) : ∃ S', X5_delete S (nI 0) (nI p) = some (0, nI z, S') ∧ CS S' (vNew V 0 t (3, p, 0, 0, 0, none) L9 (vK V)) := by
  obtain ⟨⟨c1, c2, c3⟩, c4, c5, c6, c7, c8⟩ := c
  subst c3
  obtain ⟨S1, e1, g1⟩ := ic_delete (m := 0) (by decide) h c1 c2 c4 c5 c6 c7 c8
  exact ⟨S1, tp0_delete.trans e1, g1⟩
theorem w_carry0 (h : CS S V) (c : p < vN V ∧ p ∉ (vL V) ∧ insL (stp (vTm V) (vMk V)) p (vL V) = L9) : ∃ S', X5_carry S (nI p) (nI 0) = some (0, 1, S') ∧ CS S' (vCar V 0 p L9 (vK V)) := by
  obtain ⟨c1, c2, c3⟩ := c
  obtain ⟨S1, e1, g1⟩ := ic_carry (m := 0) (by decide) h c1 c2 c3
  exact ⟨S1, (tp0_carry h.cnt c1 h.n40).trans e1, g1⟩
theorem w_carryno0 (h : CS S V) (c : p < vN V ∧ p ∈ (vL V)) : X5_carry S (nI p) (nI 0) = some (0, 0, S) := by
  obtain ⟨c1, c2⟩ := c
  exact (tp0_carry h.cnt c1 h.n40).trans (ic_carry_no h c1 c2)
theorem w_entries0 (h : CS S V) (c : cntF (tTh (vT0 V)) 42 = z) : X5_entries S (nI 0) = some (0, nI z) := tp0_entries.trans (ic_entries h c)
theorem w_there0 (h : CS S V) (c : p < 42 ∧ tTh (vT0 V) p = b) : X5_isThere S (nI 0) (nI p) = some (0, bI b) := tp0_isThere.trans (ic_there h c.1 c.2)
theorem w_at0 (h : CS S V) (c : p < 42 ∧ tTh (vT0 V) p = true ∧ paI (vT0 V) p = v ∧ tLa (vT0 V) p = o) : X5_isThere S (nI 0) (nI p) = some (0, 1) ∧ X5_parentOf S (nI 0) (nI p) = some (0, v) ∧ X5_labelOf S (nI 0) (nI p) = some (0, oI o) := ⟨tp0_isThere.trans (ic_there h c.1 c.2.1), tp0_parentOf.trans (ic_parent h c.1 c.2.1 c.2.2.1), tp0_labelOf.trans (ic_label h c.1 c.2.1 c.2.2.2)⟩
theorem w_value0 (h : CS S V) (c : p < 42 ∧ tTh (vT0 V) p = true ∧ w < 4 ∧ tVa (vT0 V) (4 * p + w) = o) : X5_value S (nI 0) (nI p) (nI w) = some (0, oI o) := tp0_value.trans (ic_value h c.1 c.2.1 c.2.2.1 c.2.2.2)
theorem w_whole0 (h : CS S V) (c : p < 42 ∧ tTh (vT0 V) p = true ∧ gdA (vNe V) (vT0 V) p 4 = b) : X5_isWhole S (nI 0) (nI p) = some (0, bI b) := tp0_isWhole.trans (ic_whole h c.1 c.2.1 c.2.2)
theorem w_find0 (h : CS S V) (c : p < 42 ∧ tTh (vT0 V) p = true ∧ l < 100 ∧ k < 42 ∧ hit (vT0 V) p (some l) (-1) k = true) : X5_find S (nI 0) (nI p) (nI l) = some (0, nI k) := tp0_find.trans (ic_find_hit h c.1 c.2.1 c.2.2.1 c.2.2.2.1 c.2.2.2.2)
theorem w_findno0 (h : CS S V) (c : p < 42 ∧ tTh (vT0 V) p = true ∧ l < 100 ∧ anyHit (vT0 V) p (some l) (-1) = false) : X5_find S (nI 0) (nI p) (nI l) = some (0, -1) := tp0_find.trans (ic_find_no h c.1 c.2.1 c.2.2.1 c.2.2.2)
theorem w_add1 (h : CS S V) (c : (vN V < 40 ∧ t = mxT (vBt V) (vTm V) 1 (vN V) + 1 ∧ (vK V) ++ [vN V] = L9) ∧ p < 42 ∧ tTh (vT1 V) p = true ∧ l < 100 ∧ i < 3 ∧ anyHit (vT1 V) p (some l) (-1) = false ∧ vN V + 2 = z) : ∃ S', X5_add S (nI 1) (nI p) (nI l) (nI i) = some (0, nI z, S') ∧ CS S' (vNew V 1 t (0, z, p, l, i, none) (vL V) L9) := by
  obtain ⟨⟨c1, c2, c3⟩, c4, c5, c6, c7, c8, c9⟩ := c
  subst c9
  subst c3
  obtain ⟨S1, e1, g1⟩ := ic_add (m := 1) (by decide) h.sw c1 c2 c4 c5 c6 c7 c8
  refine ⟨swS S1, ?_, CS.un (V := _) g1⟩
  rw [tp1_add, e1]
  rfl
theorem w_set1 (h : CS S V) (c : (vN V < 40 ∧ t = mxT (vBt V) (vTm V) 1 (vN V) + 1 ∧ (vK V) ++ [vN V] = L9) ∧ p < 42 ∧ tTh (vT1 V) p = true ∧ w < 4 ∧ o.getD 0 < 10 ∧ (vAl V (tIt (vT1 V) p)).testBit w = true ∧ oI (tVa (vT1 V) (4 * p + w)) = v) : ∃ S', X5_set S (nI 1) (nI p) (nI w) (oI o) = some (0, v, S') ∧ CS S' (vNew V 1 t (1, p, 0, 0, w, o) (vL V) L9) := by
  obtain ⟨⟨c1, c2, c3⟩, c4, c5, c6, c7, c8, c9⟩ := c
  subst c9
  subst c3
  obtain ⟨S1, e1, g1⟩ := ic_set (m := 1) (o := o) (by decide) h.sw c1 c2 c4 c5 c6 (fun k hk => by rw [hk] at c7; exact c7) c8
  refine ⟨swS S1, ?_, CS.un (V := _) g1⟩
  rw [tp1_set, e1]
  rfl
theorem w_move1 (h : CS S V) (c : (vN V < 40 ∧ t = mxT (vBt V) (vTm V) 1 (vN V) + 1 ∧ (vK V) ++ [vN V] = L9) ∧ 2 ≤ p ∧ p < 42 ∧ tTh (vT1 V) p = true ∧ q < 42 ∧ tTh (vT1 V) q = true ∧ l < 100 ∧ bel (vT1 V) q p = false ∧ anyHit (vT1 V) q (some l) (nI p) = false ∧ tPa (vT1 V) p = z) : ∃ S', X5_move S (nI 1) (nI p) (nI q) (nI l) = some (0, nI z, S') ∧ CS S' (vNew V 1 t (2, p, q, l, 0, none) (vL V) L9) := by
  obtain ⟨⟨c1, c2, c3⟩, c4, c5, c6, c7, c8, c9, c10, c11, c12⟩ := c
  subst c12
  subst c3
  obtain ⟨S1, e1, g1⟩ := ic_move (m := 1) (by decide) h.sw c1 c2 c4 c5 c6 c7 c8 c9 c10 c11
  refine ⟨swS S1, ?_, CS.un (V := _) g1⟩
  rw [tp1_move, e1]
  rfl
theorem w_delete1 (h : CS S V) (c : (vN V < 40 ∧ t = mxT (vBt V) (vTm V) 1 (vN V) + 1 ∧ (vK V) ++ [vN V] = L9) ∧ 2 ≤ p ∧ p < 42 ∧ tTh (vT1 V) p = true ∧ (∀ k, k < 42 → ¬ (tTh (vT1 V) k = true ∧ k ≠ 0 ∧ tPa (vT1 V) k = p)) ∧ cntF (tTh (vT1 V)) 42 = z + 1) : ∃ S', X5_delete S (nI 1) (nI p) = some (0, nI z, S') ∧ CS S' (vNew V 1 t (3, p, 0, 0, 0, none) (vL V) L9) := by
  obtain ⟨⟨c1, c2, c3⟩, c4, c5, c6, c7, c8⟩ := c
  subst c3
  obtain ⟨S1, e1, g1⟩ := ic_delete (m := 1) (by decide) h.sw c1 c2 c4 c5 c6 c7 c8
  refine ⟨swS S1, ?_, CS.un (V := _) g1⟩
  rw [tp1_delete, e1]
  rfl
theorem w_carry1 (h : CS S V) (c : p < vN V ∧ p ∉ (vK V) ∧ insL (stp (vTm V) (vMk V)) p (vK V) = L9) : ∃ S', X5_carry S (nI p) (nI 1) = some (0, 1, S') ∧ CS S' (vCar V 1 p (vL V) L9) := by
  obtain ⟨c1, c2, c3⟩ := c
  obtain ⟨S1, e1, g1⟩ := ic_carry (m := 1) (by decide) h.sw c1 c2 c3
  refine ⟨swS S1, ?_, CS.un (V := vCar V 1 p (vL V) L9) g1⟩
  rw [tp1_carry h.cnt c1 h.n40, e1]
  rfl
theorem w_carryno1 (h : CS S V) (c : p < vN V ∧ p ∈ (vK V)) : X5_carry S (nI p) (nI 1) = some (0, 0, S) := by
  obtain ⟨c1, c2⟩ := c
  rw [tp1_carry h.cnt c1 h.n40, ic_carry_no h.sw c1 c2]
  show some ((0 : Nat), (0 : Int32), swS (swS S)) = _
  rw [swS_swS]
theorem w_entries1 (h : CS S V) (c : cntF (tTh (vT1 V)) 42 = z) : X5_entries S (nI 1) = some (0, nI z) := tp1_entries.trans (ic_entries h.sw c)
theorem w_there1 (h : CS S V) (c : p < 42 ∧ tTh (vT1 V) p = b) : X5_isThere S (nI 1) (nI p) = some (0, bI b) := tp1_isThere.trans (ic_there h.sw c.1 c.2)
theorem w_at1 (h : CS S V) (c : p < 42 ∧ tTh (vT1 V) p = true ∧ paI (vT1 V) p = v ∧ tLa (vT1 V) p = o) : X5_isThere S (nI 1) (nI p) = some (0, 1) ∧ X5_parentOf S (nI 1) (nI p) = some (0, v) ∧ X5_labelOf S (nI 1) (nI p) = some (0, oI o) := ⟨tp1_isThere.trans (ic_there h.sw c.1 c.2.1), tp1_parentOf.trans (ic_parent h.sw c.1 c.2.1 c.2.2.1), tp1_labelOf.trans (ic_label h.sw c.1 c.2.1 c.2.2.2)⟩
theorem w_value1 (h : CS S V) (c : p < 42 ∧ tTh (vT1 V) p = true ∧ w < 4 ∧ tVa (vT1 V) (4 * p + w) = o) : X5_value S (nI 1) (nI p) (nI w) = some (0, oI o) := tp1_value.trans (ic_value h.sw c.1 c.2.1 c.2.2.1 c.2.2.2)
theorem w_whole1 (h : CS S V) (c : p < 42 ∧ tTh (vT1 V) p = true ∧ gdA (vNe V) (vT1 V) p 4 = b) : X5_isWhole S (nI 1) (nI p) = some (0, bI b) := tp1_isWhole.trans (ic_whole h.sw c.1 c.2.1 c.2.2)
theorem w_find1 (h : CS S V) (c : p < 42 ∧ tTh (vT1 V) p = true ∧ l < 100 ∧ k < 42 ∧ hit (vT1 V) p (some l) (-1) k = true) : X5_find S (nI 1) (nI p) (nI l) = some (0, nI k) := tp1_find.trans (ic_find_hit h.sw c.1 c.2.1 c.2.2.1 c.2.2.2.1 c.2.2.2.2)
theorem w_findno1 (h : CS S V) (c : p < 42 ∧ tTh (vT1 V) p = true ∧ l < 100 ∧ anyHit (vT1 V) p (some l) (-1) = false) : X5_find S (nI 1) (nI p) (nI l) = some (0, -1) := tp1_find.trans (ic_find_no h.sw c.1 c.2.1 c.2.2.1 c.2.2.2)
theorem w_add_hit (h : CS S V) (c : vN V < 40 ∧ p < 42 ∧ tTh (vT0 V) p = true ∧ l < 100 ∧ i < 3 ∧ k < 42 ∧ hit (vT0 V) p (some l) (-1) k = true) : X5_add S (nI 0) (nI p) (nI l) (nI i) = some (3, 0, S) := tp0_add.trans (ic_add_hit (m := 0) h c.1 c.2.1 c.2.2.1 c.2.2.2.1 c.2.2.2.2.1 c.2.2.2.2.2.1 c.2.2.2.2.2.2)
theorem w_set_no (h : CS S V) (c : vN V < 40 ∧ p < 42 ∧ tTh (vT0 V) p = true ∧ w < 4 ∧ o.getD 0 < 10 ∧ (vAl V (tIt (vT0 V) p)).testBit w = false) : X5_set S (nI 0) (nI p) (nI w) (oI o) = some (3, 0, S) := tp0_set.trans (ic_set_no (m := 0) (o := o) h c.1 c.2.1 c.2.2.1 c.2.2.2.1 (fun k hk => by have c7 := c.2.2.2.2.1; rw [hk] at c7; exact c7) c.2.2.2.2.2)
theorem w_move_below (h : CS S V) (c : vN V < 40 ∧ 2 ≤ p ∧ p < 42 ∧ tTh (vT0 V) p = true ∧ q < 42 ∧ tTh (vT0 V) q = true ∧ l < 100 ∧ bel (vT0 V) q p = true) : X5_move S (nI 0) (nI p) (nI q) (nI l) = some (3, 0, S) := tp0_move.trans (ic_move_below (m := 0) h c.1 c.2.1 c.2.2.1 c.2.2.2.1 c.2.2.2.2.1 c.2.2.2.2.2.1 c.2.2.2.2.2.2.1 c.2.2.2.2.2.2.2)
theorem w_delete_kid (h : CS S V) (c : vN V < 40 ∧ 2 ≤ p ∧ p < 42 ∧ tTh (vT0 V) p = true ∧ z < 42 ∧ tTh (vT0 V) z = true ∧ z ≠ 0 ∧ tPa (vT0 V) z = p) : X5_delete S (nI 0) (nI p) = some (3, 0, S) := tp0_delete.trans (ic_delete_kid (m := 0) h c.1 c.2.1 c.2.2.1 c.2.2.2.1 c.2.2.2.2.1 c.2.2.2.2.2)
theorem w_timeOf (h : CS S V) (c : p < vN V ∧ vTm V p = z) : X5_timeOf S (nI p) = some (0, nI z) := by
  rw [ic_timeOf (m := 0) h c.1, c.2]
theorem w_changes (h : CS S V) (c : vN V = z) : X5_changes S = some (nI z) := by
  rw [ic_changes (m := 0) h, c]
theorem w_alike_t (h : CS S V) (c : vL V = vK V) : X5_areAlike S = some 1 := ic_alike_t h (fun k _ => by
  rw [c]
  exact ⟨rfl, fun _ => ⟨fun _ _ => rfl, rfl, rfl, rfl⟩⟩)
theorem w_alike_f (h : CS S V) (c : k < 42 ∧ ¬ tTh (vT0 V) k = tTh (vT1 V) k) : X5_areAlike S = some 0 := ic_alike_f h c.1 (fun q => c.2 q.1)
theorem w_class {a b' : Nat} (h : CS S V) (c : vN V = 0 ∧ vL V = [] ∧ vK V = [] ∧ i < 3 ∧ a < 16 ∧ b' < 16) : ∃ S', X5_setClass S (nI i) (nI a) (nI b') = some (0, S') ∧ CS S' (vCls V i a b') := by
  obtain ⟨c1, c2, c3, c4, c5, c6⟩ := c
  unfold CS at h
  rw [c1, c2, c3] at h
  obtain ⟨S1, e1, g1⟩ := ic_class h c4 c5 c6
  refine ⟨S1, e1, ?_⟩
  show IC 0 S1 (vN V) (vLg V) (vTm V) (vMk V) (vBt V) _ _ (vL V) (vK V) (vF V) (vFk V) (vFa V) (vFb V) (vRg V) (vRf V)
  rw [c1, c2, c3]
  exact g1
theorem w_test {a b' : Nat} (h : CS S V) (c : vF V < 20 ∧ k < 3 ∧ a < 4 ∧ b' < 10 ∧ vF V = z) : ∃ S', X5_test S (nI k) (nI a) (nI b') = some (0, nI z, S') ∧ CS S' (vFil V k a b') := by
  obtain ⟨c1, c2, c3, c4, rfl⟩ := c
  exact ic_test (m := 0) h c1 c2 c3 c4
theorem w_join {a b' : Nat} (h : CS S V) (c : vF V < 20 ∧ k < 3 ∧ a < vF V ∧ b' < vF V ∧ vF V = z) : ∃ S', X5_join S (nI k) (nI a) (nI b') = some (0, nI z, S') ∧ CS S' (vFil V (3 + k) a b') := by
  obtain ⟨c1, c2, c3, c4, rfl⟩ := c
  exact ic_join (m := 0) h c1 c2 c3 c4
theorem w_right (h : CS S V) (c : i < 3 ∧ k < 42 ∧ (v = -1 ∨ v = 0 ∨ v = 1)) : ∃ S', X5_setRight S (nI i) (nI k) v = some (0, S') ∧ CS S' (vRig V i k v) := ic_right (m := 0) h c.1 c.2.1 c.2.2
theorem w_refer (h : CS S V) (c : k < 42) : ∃ S', X5_refer S (nI k) (bI b) = some (0, S') ∧ CS S' (vRef V k b) := ic_refer (m := 0) h c
theorem w_holds (h : CS S V) (c : k < vF V ∧ p < 42 ∧ tTh (vT0 V) p = true ∧ tvQ (vAl V) (vT0 V) p (vFk V) (vFa V) (vFb V) (k + 1) k = v) : ∃ S', X5_holds S (nI 0) (nI k) (nI p) = some (0, v, S') ∧ CS S' V := by
  obtain ⟨S1, e1, g1⟩ := ic_holds (m := 0) h c.1 c.2.1 c.2.2.1 c.2.2.2
  exact ⟨S1, tp0_holds.trans e1, g1⟩
theorem w_search {u bs' sc pl : Nat} (h : CS S V) (c : bs' < 42 ∧ tTh (vT0 V) bs' = true ∧ sc < 3 ∧ u < 3 ∧ x < vF V ∧ pl < 1000) (hv : seQ (vAl V) (vT0 V) (vFk V) (vFa V) (vFb V) (vRg V) (vRf V) u bs' sc x pl = o) : ∃ S', X5_search S (nI 0) (nI u) (nI bs') (nI sc) (nI x) (nI pl) = some (0, oI o, S') ∧ CS S' V := by
  obtain ⟨S1, e1, g1⟩ := ic_search (m := 0) h c.1 c.2.1 c.2.2.1 c.2.2.2.1 c.2.2.2.2.1 c.2.2.2.2.2 hv
  exact ⟨S1, tp0_search.trans e1, g1⟩
theorem w_rfs (h : CS S V) (c : p < 42 ∧ tTh (vT0 V) p = false ∧ vN V = z ∧ vF V = k) : RFS S z k p := by
  obtain ⟨c1, c2, rfl, rfl⟩ := c
  exact RFS.of h c1 c2
end W7
