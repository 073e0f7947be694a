/-! PURE 29: the codes a call can give -/
theorem cd_step {β : Type} {o : Option Nat} {c : Nat} {x : Option (Nat × β)} {w : β} {k : Nat} {v : β} (ho : ∀ q, o = some q → q ≤ c) (hx : ∀ k v, x = some (k, v) → k ≤ c) (h : (o.bind fun q => if q = 0 then x else some (q, w)) = some (k, v)) : k ≤ c := by
  cases o with
  | none => exact nomatch h
  | some q =>
    have h' : (if q = 0 then x else some (q, w)) = some (k, v) := h
    by_cases hq : q = 0
    · rw [if_pos hq] at h'
      exact hx k v h'
    · rw [if_neg hq] at h'
      have e := Option.some.inj h'
      have e1 : q = k := congrArg Prod.fst e
      rw [← e1]
      exact ho q rfl
theorem cd_leaf {α β : Type} {o : Option α} {g : α → Nat × β} {c k : Nat} {v : β} (hg : ∀ a, (g a).1 ≤ c) (h : (o.bind fun a => some (g a)) = some (k, v)) : k ≤ c := by
  cases o with
  | none => exact nomatch h
  | some a =>
    have e := Option.some.inj (show some (g a) = some (k, v) from h)
    have := hg a
    rw [e] at this
    exact this
theorem cd_ix {x y : Int32} : ∀ q, X5_checkIndex x y = some q → q ≤ 1 := fun q h => by
  unfold X5_checkIndex X5_checkIndex_b9 at h
  split at h
  · rw [← Option.some.inj h]; exact Nat.le_refl 1
  · split at h
    · rw [← Option.some.inj h]; exact Nat.zero_le 1
    · rw [← Option.some.inj h]; exact Nat.le_refl 1
theorem cd_arg {x y z : Int32} : ∀ q, X5_checkArgument x y z = some q → q ≤ 2 := fun q h => by
  unfold X5_checkArgument X5_checkArgument_b10 at h
  split at h
  · rw [← Option.some.inj h]; exact Nat.le_refl 2
  · split at h
    · rw [← Option.some.inj h]; exact Nat.zero_le 2
    · rw [← Option.some.inj h]; exact Nat.le_refl 2
theorem cd_ent {S : St} {x : Int32} : ∀ q, X5_checkEntry S x = some q → q ≤ 1 := fun q h => by
  unfold X5_checkEntry at h
  cases ho : X4_has S x with
  | none => rw [ho] at h; exact nomatch h
  | some a =>
    rw [ho] at h
    have h' : (if a = 0 then some 1 else some 0) = some q := h
    split at h'
    · rw [← Option.some.inj h']; exact Nat.le_refl 1
    · rw [← Option.some.inj h']; exact Nat.zero_le 1
theorem cd_up {c d : Nat} {o : Option Nat} (h : ∀ q, o = some q → q ≤ c) (hd : c ≤ d) : ∀ q, o = some q → q ≤ d := fun q e => Nat.le_trans (h q e) hd
theorem cd_tree {β : Type} {S : St} {x1 : Int32} {f0 f1 : Option (Nat × β)} {w : β} {c k : Nat} {v : β} (hc : 1 ≤ c) (h0 : ∀ k v, f0 = some (k, v) → k ≤ c) (h1 : ∀ k v, f1 = some (k, v) → k ≤ c) (h : ((X5_treeOf S x1).bind fun q2 => if q2.1 = 0 then (bif q2.2 then f1 else f0) else some (q2.1, w)) = some (k, v)) : k ≤ c := by
  rcases treeOf_cases S x1 with ⟨_, t⟩ | ⟨_, t⟩ | ⟨_, t⟩
  · rw [t] at h
    exact h0 k v h
  · rw [t] at h
    exact h1 k v h
  · rw [t] at h
    have e := Option.some.inj (show some (1, w) = some (k, v) from h)
    have e1 : 1 = k := congrArg Prod.fst e
    omega
theorem cd_zero {β : Type} {a : β} {c k : Nat} {v : β} (h : some ((0 : Nat), a) = some (k, v)) : k ≤ c := by
  have e : 0 = k := congrArg Prod.fst (Option.some.inj h)
  omega
theorem cd_err {β : Type} {q c k : Nat} {a v : β} (hq : q ≤ c) (h : some (q, a) = some (k, v)) : k ≤ c := by
  have e : q = k := congrArg Prod.fst (Option.some.inj h)
  omega
theorem cd_bool {o : Option Int32} {c k : Nat} {v : Int32} (h : (o.bind fun a => if a &&& 1 = a then some ((0 : Nat), a) else none) = some (k, v)) : k ≤ c := by
  cases o with
  | none => exact nomatch h
  | some a =>
    have h' : (if a &&& 1 = a then some ((0 : Nat), a) else none) = some (k, v) := h
    split at h'
    · exact cd_zero h'
    · exact nomatch h'
theorem cd_unz {f : Option (Nat × Int32 × St)} {c : Nat} (hf : ∀ k v, f = some (k, v) → k ≤ c) : ∀ k v, f.map unz = some (k, v) → k ≤ c := by
  intro k v h
  cases f with
  | none => exact nomatch h
  | some a =>
    have e : unz a = (k, v) := Option.some.inj h
    have e1 : a.1 = k := congrArg Prod.fst e
    rw [← e1]
    exact hf a.1 a.2 rfl
theorem cd_wl {α β : Type} {f : α → Option (α ⊕ β)} {P : β → Prop} (hf : ∀ a r, f a = some (.inr r) → P r) : ∀ (n : Nat) (a : α) (r : β), wloop f n a = some r → P r := by
  intro n
  induction n with
  | zero => intro a r h; exact nomatch h
  | succ n ih =>
    intro a r h
    cases hfa : f a with
    | none => rw [wloop, hfa] at h; exact nomatch h
    | some z =>
      cases z with
      | inl a' => rw [wloop, hfa] at h; exact ih a' r h
      | inr r1 =>
        rw [wloop, hfa] at h
        exact hf a r ((Option.some.inj h) ▸ hfa)
theorem cd_exI {α β : Type} {x : β} {r : Nat × β} {c : Nat} (h : exI (α := α) (some ((0 : Nat), x)) = some (.inr r)) : r.1 ≤ c := by
  have e : (Sum.inr ((0 : Nat), x) : α ⊕ (Nat × β)) = .inr r := Option.some.inj h
  injection e with e
  rw [← e]
  exact Nat.zero_le _
theorem cd_nx {α β γ : Type} {o : Option γ} {g : γ → α} {r : β} (h : (o.bind fun v => some (Sum.inl (g v) : α ⊕ β)) = some (.inr r)) : False := by
  cases o with
  | none => exact nomatch h
  | some a =>
    have h' : some (Sum.inl (g a) : α ⊕ β) = some (.inr r) := h
    cases h'
theorem cod_carry16 {S : St} {x1 : Int32} : ∀ k v, X5_carry_b16 S x1 = some (k, v) → k ≤ 1 := fun k v h => by
  unfold X5_carry_b16 X5_carry_b32 at h
  cases ho : X4_knows S x1 with
  | none => rw [ho] at h; exact nomatch h
  | some a =>
    rw [ho, bs] at h
    split at h
    · exact cd_leaf (g := fun S29 => (0, 1, S29)) (fun _ => Nat.zero_le 1) h
    · exact cd_zero h
theorem cod_carry {S : St} {x1 x2 : Int32} : ∀ k v, X5_carry S x1 x2 = some (k, v) → k ≤ 1 := fun k v h => by
  unfold X5_carry at h
  refine cd_step cd_ix (fun k v h => ?_) h
  exact cd_tree (Nat.le_refl 1) cod_carry16 (cd_unz cod_carry16) h
theorem cod_timeOf {S : St} {x1 : Int32} : ∀ k v, X5_timeOf S x1 = some (k, v) → k ≤ 1 := fun k v h => by
  unfold X5_timeOf at h
  refine cd_step cd_ix (fun k v h => ?_) h
  exact cd_leaf (g := fun v16 => (0, v16)) (fun _ => Nat.zero_le 1) h
theorem cod_entries {S : St} {x1 : Int32} : ∀ k v, X5_entries S x1 = some (k, v) → k ≤ 1 := fun k v h => by
  unfold X5_entries at h
  refine cd_tree (Nat.le_refl 1) (fun k v h => ?_) (fun k v h => ?_) h
  · unfold X5_entries_b5 at h
    exact cd_zero h
  · unfold X5_entries_b5 at h
    exact cd_zero h
theorem cod_isThere {S : St} {x1 x2 : Int32} : ∀ k v, X5_isThere S x1 x2 = some (k, v) → k ≤ 1 := fun k v h => by
  unfold X5_isThere X5_isThere_b5 at h
  exact cd_tree (Nat.le_refl 1) (fun k v h => cd_bool h) (fun k v h => cd_bool h) h
theorem cod_parentOf {S : St} {x1 x2 : Int32} : ∀ k v, X5_parentOf S x1 x2 = some (k, v) → k ≤ 1 := fun k v h => by
  unfold X5_parentOf X5_parentOf_b5 at h
  refine cd_tree (Nat.le_refl 1) (fun k v h => ?_) (fun k v h => ?_) h
  · exact cd_step cd_ent (fun k v h => cd_leaf (g := fun v13 => (0, v13)) (fun _ => Nat.zero_le 1) h) h
  · exact cd_step cd_ent (fun k v h => cd_leaf (g := fun v13 => (0, v13)) (fun _ => Nat.zero_le 1) h) h
theorem cod_labelOf {S : St} {x1 x2 : Int32} : ∀ k v, X5_labelOf S x1 x2 = some (k, v) → k ≤ 1 := fun k v h => by
  unfold X5_labelOf X5_labelOf_b5 at h
  refine cd_tree (Nat.le_refl 1) (fun k v h => ?_) (fun k v h => ?_) h
  · exact cd_step cd_ent (fun k v h => cd_leaf (g := fun v13 => (0, v13)) (fun _ => Nat.zero_le 1) h) h
  · exact cd_step cd_ent (fun k v h => cd_leaf (g := fun v13 => (0, v13)) (fun _ => Nat.zero_le 1) h) h
theorem cod_value5 {S : St} {x2 x3 : Int32} : ∀ k v, X5_value_b5 S x2 x3 = some (k, v) → k ≤ 1 := fun k v h => by
  unfold X5_value_b5 at h
  refine cd_step cd_ent (fun k v h => ?_) h
  refine cd_step cd_ix (fun k v h => ?_) h
  exact cd_leaf (g := fun v22 => (0, v22)) (fun _ => Nat.zero_le 1) h
theorem cod_value {S : St} {x1 x2 x3 : Int32} : ∀ k v, X5_value S x1 x2 x3 = some (k, v) → k ≤ 1 := fun k v h => by
  unfold X5_value at h
  exact cd_tree (Nat.le_refl 1) cod_value5 cod_value5 h
theorem cod_isWhole5 {S : St} {x2 : Int32} : ∀ k v, X5_isWhole_b5 S x2 = some (k, v) → k ≤ 1 := fun k v h => by
  unfold X5_isWhole_b5 at h
  exact cd_step cd_ent (fun k v h => cd_bool h) h
theorem cod_isWhole {S : St} {x1 x2 : Int32} : ∀ k v, X5_isWhole S x1 x2 = some (k, v) → k ≤ 1 := fun k v h => by
  unfold X5_isWhole at h
  exact cd_tree (Nat.le_refl 1) cod_isWhole5 cod_isWhole5 h
theorem cod_find5 {S : St} {x2 x3 : Int32} : ∀ k v, X5_find_b5 S x2 x3 = some (k, v) → k ≤ 2 := fun k v h => by
  unfold X5_find_b5 at h
  refine cd_step (cd_up cd_ent (by decide)) (fun k v h => ?_) h
  refine cd_step cd_arg (fun k v h => ?_) h
  exact cd_leaf (g := fun v25 => (0, v25)) (fun _ => Nat.zero_le 2) h
theorem cod_find {S : St} {x1 x2 x3 : Int32} : ∀ k v, X5_find S x1 x2 x3 = some (k, v) → k ≤ 2 := fun k v h => by
  unfold X5_find at h
  exact cd_tree (by decide) cod_find5 cod_find5 h
theorem cod_setRight {S : St} {x1 x2 x3 : Int32} : ∀ k v, X5_setRight S x1 x2 x3 = some (k, v) → k ≤ 2 := fun k v h => by
  unfold X5_setRight X5_setRight_b27 at h
  refine cd_step (cd_up cd_ix (by decide)) (fun k v h => ?_) h
  refine cd_step (cd_up cd_ix (by decide)) (fun k v h => ?_) h
  refine cd_step cd_arg (fun k v h => ?_) h
  exact cd_leaf (g := fun S24 => (0, S24)) (fun _ => Nat.zero_le 2) h
theorem cod_refer {S : St} {x1 x2 : Int32} : ∀ k v, X5_refer S x1 x2 = some (k, v) → k ≤ 1 := fun k v h => by
  unfold X5_refer X5_refer_b15 at h
  refine cd_step cd_ix (fun k v h => ?_) h
  exact cd_leaf (g := fun S12 => (0, S12)) (fun _ => Nat.zero_le 1) h
theorem cod_holds5 {S : St} {x2 x3 : Int32} : ∀ k v, X5_holds_b5 S x2 x3 = some (k, v) → k ≤ 1 := fun k v h => by
  unfold X5_holds_b5 X5_holds_b35 at h
  refine cd_step cd_ix (fun k v h => ?_) h
  refine cd_step cd_ent (fun k v h => ?_) h
  exact cd_leaf (g := fun q32 : Int32 × St => (0, q32.1, q32.2)) (fun _ => Nat.zero_le 1) h
theorem cod_holds {S : St} {x1 x2 x3 : Int32} : ∀ k v, X5_holds S x1 x2 x3 = some (k, v) → k ≤ 1 := fun k v h => by
  unfold X5_holds at h
  exact cd_tree (Nat.le_refl 1) cod_holds5 (cd_unz cod_holds5) h
theorem cod_searchH {S : St} {x2 x3 x4 x5 x6 x8 x9 x10 : Int32} {r : Nat × Int32 × St} (h : X5_search_H81 S x2 x3 x4 x5 x6 x8 x9 x10 = some (.inr r)) : r.1 ≤ 2 := by
  unfold X5_search_H81 X5_search_b140 at h
  split at h
  · exact cd_exI h
  · split at h
    · exact cd_exI h
    · cases ho : X5_isFound S x2 x5 x9 with
      | none => rw [ho] at h; exact nomatch h
      | some q =>
        rw [ho, bs] at h
        unfold X5_search_b105 X5_search_b121 X5_search_b115 at h
        split at h
        · exact (cd_nx h).elim
        · split at h
          · exact cd_exI h
          · exact (cd_nx h).elim
theorem cod_searchL {S : St} {x2 x3 x4 x5 x6 x8 s0 : Int32} : ∀ k v, X5_search_b76 S x2 x3 x4 x5 x6 x8 s0 = some (k, v) → k ≤ 2 := fun k v h => by
  unfold X5_search_b76 X5_search_L81 at h
  exact cd_wl (P := fun r => r.1 ≤ 2) (fun a r h => cod_searchH h) 1000 _ (k, v) h
theorem cod_search5 {S : St} {x2 x3 x4 x5 x6 : Int32} : ∀ k v, X5_search_b5 S x2 x3 x4 x5 x6 = some (k, v) → k ≤ 2 := fun k v h => by
  unfold X5_search_b5 at h
  refine cd_step (cd_up cd_ix (by decide)) (fun k v h => ?_) h
  refine cd_step (cd_up cd_ent (by decide)) (fun k v h => ?_) h
  refine cd_step (cd_up cd_ix (by decide)) (fun k v h => ?_) h
  split at h
  · refine cd_step cd_arg (fun k v h => ?_) h
    split at h
    · cases ho : X4_childAfter S x3 (-1) with
      | none => rw [ho] at h; exact nomatch h
      | some a => rw [ho, bs] at h; exact cod_searchL k v h
    · exact cod_searchL k v h
  · exact cd_err (by decide) h
theorem cod_search {S : St} {x1 x2 x3 x4 x5 x6 : Int32} : ∀ k v, X5_search S x1 x2 x3 x4 x5 x6 = some (k, v) → k ≤ 2 := fun k v h => by
  unfold X5_search at h
  exact cd_tree (by decide) cod_search5 (cd_unz cod_search5) h
