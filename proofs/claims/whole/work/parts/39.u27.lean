/-! PURE 27: the first states -/
theorem init_M : ∃ r : St, X6_init_b188 mz = some r ∧ ((∀ k j, k ≠ 2 → k ≠ 12 → r k j = 0) ∧ (∀ j, j < 3 → r 2 j = 15) ∧ ∀ j, j < 126 → r 12 j = -1) := by
  unfold X6_init_b188 X6_init_L190
  refine wl_inv (f := fun a' : (St × Int32) => X6_init_H190 a'.1 a'.2) (N := 3) (fun j a => ∃ V : St, a = (V, nI j) ∧ (∀ k i, k ≠ 2 → V k i = 0) ∧ ∀ i, i < j → V 2 i = 15) (by decide) ?_ ?_ ⟨mz, rfl, fun _ _ _ => rfl, fun i hi => absurd hi (Nat.not_lt_zero i)⟩
  · rintro j a hj ⟨V, rfl, vf, vg⟩
    show ∃ a', X6_init_H190 V (nI j) = some (.inl a') ∧ _
    unfold X6_init_H190 X6_init_b203
    rw [if_neg (ge3 hj), if_pos (in3 hj), clN (by omega), ← nI_succ]
    refine ⟨_, rfl, _, rfl, fun k i hk => by rw [up_n hk]; exact vf k i hk, fun i hi => ?_⟩
    rw [up_s]
    by_cases h : i = j
    · rw [h, upd_s]
    · rw [upd_n h]; exact vg i (by omega)
  · rintro a ⟨V, rfl, vf, vg⟩
    show ∃ r, X6_init_H190 V (nI 3) = some (.inr r) ∧ _
    unfold X6_init_H190 X6_init_b209 X6_init_L211
    rw [if_pos (show (3 : Int32) ≤ nI 3 from nI_le (Nat.le_refl 3) (by decide))]
    have key : ∃ r, wloop (fun a' : (St × Int32) => X6_init_H211 a'.1 a'.2) 1000 (V, 0) = some r ∧ ((∀ k j, k ≠ 2 → k ≠ 12 → r k j = 0) ∧ (∀ j, j < 3 → r 2 j = 15) ∧ ∀ j, j < 126 → r 12 j = -1) := by
      refine wl_inv (N := 126) (fun j a => ∃ W : St, a = (W, nI j) ∧ (∀ k, k ≠ 12 → W k = V k) ∧ ∀ i, i < j → W 12 i = -1) (by decide) ?_ ?_ ⟨V, rfl, fun _ _ => rfl, fun i hi => absurd hi (Nat.not_lt_zero i)⟩
      · rintro j a hj ⟨W, rfl, wf, wg⟩
        show ∃ a', X6_init_H211 W (nI j) = some (.inl a') ∧ _
        unfold X6_init_H211 X6_init_b224
        rw [if_neg (show ¬ (126 : Int32) ≤ nI j from nI_ge (b := 126) hj (by decide)), if_pos (in126 hj), clN (by omega), ← nI_succ]
        refine ⟨_, rfl, _, rfl, fun k hk => (up_n hk).trans (wf k hk), fun i hi => ?_⟩
        rw [up_s]
        by_cases h : i = j
        · rw [h, upd_s]
        · rw [upd_n h]; exact wg i (by omega)
      · rintro a ⟨W, rfl, wf, wg⟩
        show ∃ r, X6_init_H211 W (nI 126) = some (.inr r) ∧ _
        unfold X6_init_H211 X6_init_b230
        rw [if_pos (show (126 : Int32) ≤ nI 126 from nI_le (Nat.le_refl 126) (by decide))]
        exact ⟨W, rfl, fun k j h1 h2 => by rw [wf k h2]; exact vf k j h1, fun j hj => by rw [wf 2 (by decide)]; exact vg j hj, wg⟩
    obtain ⟨r, e, e1⟩ := key
    exact ⟨r, by rw [e]; rfl, e1⟩
def sE (A B : St) (fc fr : Nat → Int32) : St := fun k => if k < 7 then A k else if k < 14 then B (k - 7) else if k = 23 then fc else if k = 25 then fr else fun _ => 0
theorem init_INV {A B r : St} {fc fr' : Nat → Int32} (hA : X4_clear (tz 0) = some A) (hB : X4_clear (tz 1) = some B) (hc : ∀ i, i < 3 → fc i = 15) (hr : ∀ i, i < 126 → fr' i = -1) (h0 : ∀ k j, k ≠ 2 → k ≠ 12 → r k j = 0) (h2 : ∀ j, j < 3 → r 2 j = 15) (h12 : ∀ j, j < 126 → r 12 j = -1) : INV 0 (sE A B fc fr') r := by
  obtain ⟨A', e1, a1, a2, a3⟩ := clear_ok (tz 0)
  obtain ⟨B', e2, b1, b2, b3⟩ := clear_ok (tz 1)
  have hA' : A' = A := Option.some.inj (e1.symm.trans hA)
  have hB' : B' = B := Option.some.inj (e2.symm.trans hB)
  subst hA'
  subst hB'
  have sA : ∀ k, k < 7 → sE A' B' fc fr' k = A' k := fun k hk => if_pos hk
  have sB : ∀ k, k < 7 → swS (sE A' B' fc fr') k = B' k := fun k hk => by
    show sE A' B' fc fr' (sw k) = B' k
    rw [sw_lo hk]
    unfold sE
    rw [if_neg (by omega), if_pos (by omega), Nat.add_sub_cancel]
  have t1 : TR A' 0 0 (fun _ => (0, 0, 0, 0, 0, none)) (fun _ => 0) (stp (fun _ => 0) (fun _ => 0)) (fun _ => 15) [] := ⟨by rw [a3.2 0 (by decide)]; rfl, ⟨by rw [a3.2 4 (by decide)]; rfl, (fun i c q => nomatch q)⟩, ⟨List.Pairwise.nil, fun c => ⟨(fun q => nomatch q), fun q => absurd q.1 (Nat.not_lt_zero c)⟩⟩, a1, a2⟩
  have t2 : TR B' 1 0 (fun _ => (0, 0, 0, 0, 0, none)) (fun _ => 0) (stp (fun _ => 0) (fun _ => 0)) (fun _ => 15) [] := ⟨by rw [b3.2 0 (by decide)]; rfl, ⟨by rw [b3.2 4 (by decide)]; rfl, (fun i c q => nomatch q)⟩, ⟨List.Pairwise.nil, fun c => ⟨(fun q => nomatch q), fun q => absurd q.1 (Nat.not_lt_zero c)⟩⟩, b1, b2⟩
  refine ⟨0, fun _ => (0, 0, 0, 0, 0, none), fun _ => 0, fun _ => 0, fun _ => 0, fun _ => 0, fun _ => 15, [], [], 0, ⟨⟨by decide, fun c hc => absurd hc (Nat.not_lt_zero c), fun c _ hc => absurd hc (Nat.not_lt_zero c)⟩, fun c hc => absurd hc (Nat.not_lt_zero c)⟩, ⟨rfl, fun c hc => absurd hc (Nat.not_lt_zero c)⟩, ⟨h0 0 2 (by decide) (by decide), fun c hc => absurd hc (Nat.not_lt_zero c)⟩, t1.fr sA, t2.fr sB, ⟨fun i hi => ⟨rfl, (show (0 : Nat) < 16 by decide), hc i hi, (show (15 : Nat) < 16 by decide)⟩, fun i hi => ⟨h0 1 i (by decide) (by decide), (show (0 : Nat) < 16 by decide), h2 i hi, (show (15 : Nat) < 16 by decide)⟩⟩, ⟨fun k hk => ⟨(hr k hk).trans (h12 k hk).symm, .inl (h12 k hk)⟩, fun k hk => (h0 13 k (by decide) (by decide)).symm⟩, ⟨by decide, rfl, h0 0 14 (by decide) (by decide), fun j hj => absurd hj (Nat.not_lt_zero j)⟩⟩
