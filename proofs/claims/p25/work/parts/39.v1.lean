/-! CLASS 1: arguments, and what holds of the class between two calls -/
theorem arg_in {x lo hi : Int32} (a : ¬ x < lo) (b : x ≤ hi) : X5_checkArgument x lo hi = some 0 := by
  unfold X5_checkArgument
  rw [if_neg a, if_pos b]
theorem arg_out {x lo hi : Int32} (a : x < lo ∨ ¬ x ≤ hi) : X5_checkArgument x lo hi = some 2 := by
  unfold X5_checkArgument X5_checkArgument_b10
  by_cases h : x < lo
  · rw [if_pos h]
  · rw [if_neg h, if_neg (a.resolve_left h)]
theorem ixc (x : Int32) {n : Nat} (hn : n < 1000) : (∃ j, j < n ∧ x = nI j ∧ X5_checkIndex x (nI n) = some 0) ∨ ((∀ j, j < n → x ≠ nI j) ∧ X5_checkIndex x (nI n) = some 1) := by
  unfold X5_checkIndex X5_checkIndex_b9
  have t2 : (nI n).toInt = (n : Int) := nI_toInt (by omega)
  rcases pk_ix x (n := n) (by omega) with h | h | ⟨j, hj, rfl⟩
  · right
    refine ⟨fun j hj q => ?_, ?_⟩
    · rw [q] at h
      exact nI_pos (by omega) h
    · rw [if_pos h]
  · right
    have h1 : ¬ x < nI n := by
      rw [Int32.le_iff_toInt_le] at h
      rw [Int32.lt_iff_toInt_lt]
      omega
    have h0 : ¬ x < 0 := by
      rw [Int32.le_iff_toInt_le, t2] at h
      rw [Int32.lt_iff_toInt_lt]
      have : (0 : Int32).toInt = 0 := rfl
      omega
    refine ⟨fun j hj q => ?_, ?_⟩
    · rw [q] at h1
      exact h1 (nI_lt hj (by omega))
    · rw [if_neg h0, if_neg h1]
  · left
    refine ⟨j, hj, rfl, ?_⟩
    rw [if_neg (nI_pos (by omega)), if_pos (nI_lt hj (by omega))]
theorem ix_in {j n : Nat} (h : j < n) (hn : n < 1000) : X5_checkIndex (nI j) (nI n) = some 0 := by
  rcases ixc (nI j) hn with ⟨_, _, _, e⟩ | ⟨q, _⟩
  · exact e
  · exact absurd rfl (q j h)
theorem ix_out {x : Int32} {n : Nat} (hn : n < 1000) (h : ∀ j, j < n → x ≠ nI j) : X5_checkIndex x (nI n) = some 1 := by
  rcases ixc x hn with ⟨j, hj, e, _⟩ | ⟨_, e⟩
  · exact absurd e (h j hj)
  · exact e
theorem treeOf_0 (S : St) : X5_treeOf S (nI 0) = some (0, false) := by
  unfold X5_treeOf
  rw [show (2 : Int32) = nI 2 from rfl, ix_in (by decide) (by decide), bs, if_pos rfl, if_pos (by decide)]
theorem treeOf_1 (S : St) : X5_treeOf S (nI 1) = some (0, true) := by
  unfold X5_treeOf
  rw [show (2 : Int32) = nI 2 from rfl, ix_in (by decide) (by decide), bs, if_pos rfl, if_neg (by decide)]
theorem treeOf_no (S : St) {x : Int32} (h : ∀ j, j < 2 → x ≠ nI j) : X5_treeOf S x = some (1, false) := by
  unfold X5_treeOf
  rw [show (2 : Int32) = nI 2 from rfl, ix_out (by decide) h, bs, if_neg (by decide)]
theorem ent_in {S : St} {T : AT} {p : Nat} (h2 : E2 S T) (hp : p < 42) (ht : tTh T p = true) : X5_checkEntry S (nI p) = some 0 := by
  unfold X5_checkEntry
  rw [has_ok h2 hp, ht, bs, if_neg bit1]
theorem ent_out {S : St} {T : AT} {x : Int32} (h2 : E2 S T) (h : ∀ k, k < 42 → x = nI k → tTh T k = false) : X5_checkEntry S x = some 1 := by
  unfold X5_checkEntry
  rw [has_off h2 h, bs, if_pos rfl]
def RGT (S : St) (rg rf : Nat → Int32) : Prop := (∀ k, k < 126 → S 25 k = rg k ∧ (rg k = -1 ∨ rg k = 0 ∨ rg k = 1)) ∧ ∀ k, k < 42 → S 26 k = rf k
/-- what holds of the class, seen from master m -/
def IC (m : Nat) (S : St) (n : Nat) (lg : Nat → CH) (tm mk bt N A : Nat → Nat) (L L' : List Nat) (F : Nat) (fk fa fb : Nat → Nat) (rg rf : Nat → Int32) : Prop := (LOGW n lg tm mk bt ∧ MKB n mk bt) ∧ LOGE S n lg (stp tm mk) ∧ TR S m n lg bt (stp tm mk) A L ∧ TR (swS S) (1 - m) n lg bt (stp tm mk) A L' ∧ RCL S 22 23 N A ∧ RGT S rg rf ∧ S 27 4 = nI F ∧ FG S 28 29 30 F fk fa fb
section IC1
variable {m n F : Nat} {S S' : St} {lg : Nat → CH} {tm mk bt N A fk fa fb : Nat → Nat} {L L' : List Nat} {rg rf : Nat → Int32}
theorem IC.q (h : IC m S n lg tm mk bt N A L L' F fk fa fb rg rf) (hS : QE S S') : IC m S' n lg tm mk bt N A L L' F fk fa fb rg rf := by
  obtain ⟨a, ⟨b1, b2⟩, d, e, f1, ⟨g1, g2⟩, h2, h4⟩ := h
  refine ⟨a, ⟨?_, fun c hc => ⟨(b2 c hc).1.fr2 (fun k p q => hS k (by omega)), ?_⟩⟩, d.fr (fun k hk => hS k (by omega)), e.fr (fun k hk => ?_), f1.fr (hS 22 (by decide)) (hS 23 (by decide)), ⟨?_, ?_⟩, ?_, ?_⟩
  · rw [hS 14 (by decide)]; exact b1
  · rw [hS 16 (by decide)]; exact (b2 c hc).2
  · show S' (sw k) = S (sw k)
    rw [sw_lo hk]
    exact hS _ (by omega)
  · rw [hS 25 (by decide)]; exact g1
  · rw [hS 26 (by decide)]; exact g2
  · rw [hS 27 (by decide)]; exact h2
  · unfold FG
    rw [hS 28 (by decide), hS 29 (by decide), hS 30 (by decide)]; exact h4
theorem IC.swap (hm : m < 2) (h : IC m S n lg tm mk bt N A L L' F fk fa fb rg rf) : IC (1 - m) (swS S) n lg tm mk bt N A L' L F fk fa fb rg rf := by
  obtain ⟨a, ⟨b1, b2⟩, d, e, f1, ⟨g1, g2⟩, h2, h4⟩ := h
  refine ⟨a, ⟨?_, fun c hc => ⟨(b2 c hc).1.fr2 (fun k p q => swS_hi (by omega)), ?_⟩⟩, e, ?_, f1.fr (swS_hi (by decide)) (swS_hi (by decide)), ⟨?_, ?_⟩, ?_, ?_⟩
  · rw [swS_hi (by decide)]; exact b1
  · rw [swS_hi (by decide)]; exact (b2 c hc).2
  · rw [swS_swS, show 1 - (1 - m) = m by omega]; exact d
  · rw [swS_hi (by decide)]; exact g1
  · rw [swS_hi (by decide)]; exact g2
  · rw [swS_hi (by decide)]; exact h2
  · unfold FG
    rw [swS_hi (by decide), swS_hi (by decide), swS_hi (by decide)]; exact h4
theorem IC.wf (h : IC m S n lg tm mk bt N A L L' F fk fa fb rg rf) : WF (repl A lg L) ∧ CLO (repl A lg L) none ∧ ∀ y, 2 ≤ y → tTh (repl A lg L) y = true → y - 2 ∈ L := repl_WF (A := A) (h.2.2.1.2.2.1.wkl h.1.1)
theorem IC.re (h : IC m S n lg tm mk bt N A L L' F fk fa fb rg rf) : RE S (repl A lg L) := h.2.2.1.2.2.2.1
theorem IC.n40 (h : IC m S n lg tm mk bt N A L L' F fk fa fb rg rf) : n ≤ 40 := h.1.1.1
theorem IC.F20 (h : IC m S n lg tm mk bt N A L L' F fk fa fb rg rf) : F ≤ 20 := h.2.2.2.2.2.2.2.1
theorem IC.cnt (h : IC m S n lg tm mk bt N A L L' F fk fa fb rg rf) : S 14 6 = nI n := h.2.1.1
theorem IC.fil (h : IC m S n lg tm mk bt N A L L' F fk fa fb rg rf) : S 27 4 = nI F := h.2.2.2.2.2.2.1
theorem IC.ein {p : Nat} (h : IC m S n lg tm mk bt N A L L' F fk fa fb rg rf) (hp : p < 42) (ht : tTh (repl A lg L) p = true) : X5_checkEntry S (nI p) = some 0 := ent_in h.re.1 hp ht
theorem IC.eout {x : Int32} (h : IC m S n lg tm mk bt N A L L' F fk fa fb rg rf) (hx : ∀ k, k < 42 → x = nI k → tTh (repl A lg L) k = false) : X5_checkEntry S x = some 1 := ent_out h.re.1 hx
theorem room_in (h : IC m S n lg tm mk bt N A L L' F fk fa fb rg rf) (hn : n < 40) : X5_checkRoomForChange S = some 0 := by
  unfold X5_checkRoomForChange
  rw [h.cnt, if_pos (show nI n < 40 from nI_lt (b := 40) hn (by decide))]
theorem room_out (h : IC m S n lg tm mk bt N A L L' F fk fa fb rg rf) (hn : n = 40) : X5_checkRoomForChange S = some 3 := by
  unfold X5_checkRoomForChange
  rw [h.cnt, hn]
  rfl
theorem froom_in (h : IC m S n lg tm mk bt N A L L' F fk fa fb rg rf) (hn : F < 20) : X5_checkRoomForFilter S = some 0 := by
  unfold X5_checkRoomForFilter
  rw [h.fil, if_pos (show nI F < 20 from nI_lt (b := 20) hn (by decide))]
theorem froom_out (h : IC m S n lg tm mk bt N A L L' F fk fa fb rg rf) (hn : F = 20) : X5_checkRoomForFilter S = some 3 := by
  unfold X5_checkRoomForFilter
  rw [h.fil, hn]
  rfl
end IC1
