/-! PURE 1: ints, rows, loops -/
def bI (b : Bool) : Int32 := if b = true then 1 else 0
def oI (o : Option Nat) : Int32 := match o with
  | none => -1
  | some k => nI k
theorem bI_t : bI true = 1 := rfl
theorem bI_f : bI false = 0 := rfl
theorem bI_and (b : Bool) : bI b &&& 1 = bI b := by cases b <;> decide
theorem bI_0 {b : Bool} : (bI b = 0) = (b = false) := by cases b <;> simp [bI]
theorem bI_1 {b : Bool} : (bI b = 1) = (b = true) := by cases b <;> simp [bI]
theorem oI_s (k : Nat) : oI (some k) = nI k := rfl
theorem oI_n : oI none = -1 := rfl
theorem nI_nn {k : Nat} (h : k < 2 ^ 31) : ¬ nI k = -1 := fun g => nI_pos h (by rw [g]; decide)
theorem nI_nn' {k : Nat} (h : k < 2 ^ 31) : ¬ (-1 : Int32) = nI k := fun g => nI_nn h g.symm
theorem inB_nI {j N : Nat} (h : j < N) (hN : N < 2 ^ 31) : inB (nI j) N = true := decide_eq_true (p := ¬ (nI j < 0 ∨ N ≤ (nI j).toNatClampNeg)) (vp_in_nI h hN)
theorem oI_eq {a : Option Nat} {k : Nat} (ha : ∀ x, a = some x → x < 2 ^ 31) (hk : k < 2 ^ 31) : (oI a = nI k) = (a = some k) := by
  cases a with
  | none => simp only [oI]; exact eq_false (nI_nn' hk) |>.trans (by simp)
  | some x => simp only [oI, nI_eq (ha x rfl) hk, Option.some.injEq]
theorem oI_m1 {a : Option Nat} (ha : ∀ x, a = some x → x < 2 ^ 31) : (oI a = -1) = (a = none) := by
  cases a with
  | none => simp [oI]
  | some x => simp only [oI]; exact eq_false (nI_nn (ha x rfl)) |>.trans (by simp)
theorem oI_lt0 {a : Option Nat} (ha : ∀ x, a = some x → x < 2 ^ 31) : (oI a < 0) = (a = none) := by
  cases a with
  | none => simp only [oI]; exact (eq_true (by decide)).trans (by simp)
  | some x => simp only [oI]; exact eq_false (nI_pos (ha x rfl)) |>.trans (by simp)
theorem oI_ge0 {a : Option Nat} (ha : ∀ x, a = some x → x < 2 ^ 31) : (0 ≤ oI a) = ¬ (a = none) := by
  cases a with
  | none => simp only [oI]; exact (eq_false (by decide)).trans (by simp)
  | some x => simp only [oI]; exact eq_true (nI_pos' (ha x rfl)) |>.trans (by simp)
theorem oI_inj {a b : Option Nat} (ha : ∀ x, a = some x → x < 2 ^ 31) (hb : ∀ x, b = some x → x < 2 ^ 31) : (oI a = oI b) = (a = b) := by
  cases b with
  | none => exact oI_m1 ha
  | some y => exact oI_eq ha (hb y rfl)
theorem at_in {N j : Nat} {f : Nat → Int32} (h : j < N) (hN : N < 2 ^ 31) : X5_at N f (nI j) = some (f j) := by
  unfold X5_at X5_at_b17
  rw [if_neg (nI_pos (by omega)), if_neg (show ¬ Int32.ofNat N ≤ nI j from nI_ge h hN), if_pos (inB_nI h hN), nI_clamp (by omega)]
theorem at_neg {N : Nat} {f : Nat → Int32} : X5_at N f (-1) = some (-1) := by
  unfold X5_at
  rw [if_pos (by decide)]
  rfl
theorem at_out {N j : Nat} {f : Nat → Int32} (h : N ≤ j) (hj : j < 2 ^ 31) : X5_at N f (nI j) = some (-1) := by
  unfold X5_at
  rw [if_neg (nI_pos (by omega)), if_pos (show Int32.ofNat N ≤ nI j from nI_le h hj)]
  rfl
theorem put_in {N j : Nat} {f : Nat → Int32} {v : Int32} (h : j < N) (hN : N < 2 ^ 31) : X5_put N f (nI j) v = some (upd f j v) := by
  unfold X5_put X5_put_b14
  rw [if_neg (nI_pos (by omega)), if_neg (show ¬ Int32.ofNat N ≤ nI j from nI_ge h hN), if_pos (inB_nI h hN), nI_clamp (by omega)]
theorem upd_s {f : Nat → Int32} {k : Nat} {x : Int32} : upd f k x k = x := by simp [upd]
theorem upd_n {f : Nat → Int32} {k j : Nat} {x : Int32} (h : j ≠ k) : upd f k x j = f j := by simp [upd, h]
theorem up_s {S : St} {k : Nat} {f : Nat → Int32} : up S k f k = f := by simp [up]
theorem up_n {S : St} {k j : Nat} {f : Nat → Int32} (h : j ≠ k) : up S k f j = S j := by
  have : Nat.beq j k = false := by
    cases hb : Nat.beq j k
    · rfl
    · exact absurd (Nat.eq_of_beq_eq_true hb) h
  simp [up, this]
/-- loops whose states are known -/
theorem wl_for {α β : Type} {f : α → Option (α ⊕ β)} {N : Nat} (st : Nat → α) (hs : ∀ j, j < N → f (st j) = some (.inl (st (j + 1)))) {r : β} (hf : f (st N) = some (.inr r)) : ∀ fuel j, j ≤ N → N < fuel + j → wloop f fuel (st j) = some r := by
  intro fuel
  induction fuel with
  | zero => intro j h1 h2; omega
  | succ n ih =>
    intro j h1 h2
    rcases Nat.lt_or_ge j N with h | h
    · rw [wloop, hs j h]
      exact ih (j + 1) h (by omega)
    · have : j = N := by omega
      subst this
      rw [wloop, hf]
theorem wl_for0 {α β : Type} {f : α → Option (α ⊕ β)} {N : Nat} (st : Nat → α) (hs : ∀ j, j < N → f (st j) = some (.inl (st (j + 1)))) {r : β} (hf : f (st N) = some (.inr r)) (hN : N < 1000) : wloop f 1000 (st 0) = some r := wl_for st hs hf 1000 0 (Nat.zero_le _) (by omega)
/-- a fold over 0, 1, .. -/
def fr {σ : Type} (step : Nat → σ → σ) (s : σ) : Nat → σ
  | 0 => s
  | j + 1 => step j (fr step s j)
theorem least_or {P : Nat → Prop} (N : Nat) : (∃ k, k < N ∧ P k ∧ ∀ j, j < k → ¬ P j) ∨ ∀ k, k < N → ¬ P k := by
  by_cases h : ∃ k, k < N ∧ P k
  · obtain ⟨k, hk, hl⟩ := pk_least (fun k => k < N ∧ P k) h
    refine Or.inl ⟨k, hk.1, hk.2, fun j hj hp => hl j hj ⟨Nat.lt_trans hj hk.1, hp⟩⟩
  · exact Or.inr fun k hk hp => h ⟨k, hk, hp⟩
theorem hasBit_ok : ∀ x, x < 16 → ∀ a, a < 4 → X0_hasBit (nI x) (nI a) = some (bI (x.testBit a)) := by decide +kernel
theorem shr_ok : ∀ x, x < 16 → ∀ a, a < 4 → (((nI x >>> (nI a &&& 31)) &&& 1 = 1) ↔ x.testBit a = true) := by decide +kernel
/-- labels -/
def alike (a b : Option Nat) : Bool := match a, b with
  | some i, some j => i % 50 == j % 50
  | _, _ => false
theorem areLike_ok {a b : Option Nat} (ha : ∀ x, a = some x → x < 100) (hb : ∀ x, b = some x → x < 100) : X4_areLike (oI a) (oI b) = some (bI (alike a b)) := by
  unfold X4_areLike
  cases a with
  | none => rw [if_pos (show oI none = -1 from rfl)]; rfl
  | some i =>
    have hi := ha i rfl
    rw [if_neg (show ¬ oI (some i) = -1 from nI_nn (by omega))]
    cases b with
    | none => rw [if_pos (show oI none = -1 from rfl)]; rfl
    | some j =>
      have hj := hb j rfl
      rw [if_neg (show ¬ oI (some j) = -1 from nI_nn (by omega))]
      have e1 : oI (some i) - oI (some i) / 50 * 50 = nI (i % 50) := pk_rem (a := i) (d := 50) (by omega) (by decide) (by decide)
      have e2 : oI (some j) - oI (some j) / 50 * 50 = nI (j % 50) := pk_rem (a := j) (d := 50) (by omega) (by decide) (by decide)
      by_cases h : i % 50 = j % 50
      · have ha : alike (some i) (some j) = true := by simp [alike, h]
        rw [if_pos (e1.trans ((congrArg nI h).trans e2.symm)), ha]
        rfl
      · have ha : alike (some i) (some j) = false := by simp [alike, h]
        rw [if_neg (fun q => h ((nI_eq (by omega) (by omega)).mp (e1.symm.trans (q.trans e2)))), ha]
        rfl
theorem bs {α β : Type} {a : α} {f : α → Option β} : (some a).bind f = f a := rfl
theorem ge42 {j : Nat} (h : j < 42) : ¬ (42 : Int32) ≤ nI j := nI_ge (b := 42) h (by decide)
theorem le42 : (42 : Int32) ≤ nI 42 := nI_le (Nat.le_refl 42) (by decide)
theorem in42 {j : Nat} (h : j < 42) : inB (nI j) 42 = true := inB_nI h (by decide)
theorem cl42 {j : Nat} (h : j < 42) : (nI j).toNatClampNeg = j := nI_clamp (by omega)
theorem ge40 {j : Nat} (h : j < 40) : ¬ (40 : Int32) ≤ nI j := nI_ge (b := 40) h (by decide)
theorem in40 {j : Nat} (h : j < 40) : inB (nI j) 40 = true := inB_nI h (by decide)
theorem ge168 {j : Nat} (h : j < 168) : ¬ (168 : Int32) ≤ nI j := nI_ge (b := 168) h (by decide)
theorem le168 : (168 : Int32) ≤ nI 168 := nI_le (Nat.le_refl 168) (by decide)
theorem in168 {j : Nat} (h : j < 168) : inB (nI j) 168 = true := inB_nI h (by decide)
theorem in126 {j : Nat} (h : j < 126) : inB (nI j) 126 = true := inB_nI h (by decide)
theorem in20 {j : Nat} (h : j < 20) : inB (nI j) 20 = true := inB_nI h (by decide)
theorem ge20 {j : Nat} (h : j < 20) : ¬ (20 : Int32) ≤ nI j := nI_ge (b := 20) h (by decide)
theorem in3 {j : Nat} (h : j < 3) : inB (nI j) 3 = true := inB_nI h (by decide)
theorem ge3 {j : Nat} (h : j < 3) : ¬ (3 : Int32) ≤ nI j := nI_ge (b := 3) h (by decide)
theorem ge4 {j : Nat} (h : j < 4) : ¬ (4 : Int32) ≤ nI j := nI_ge (b := 4) h (by decide)
theorem le4 : (4 : Int32) ≤ nI 4 := nI_le (Nat.le_refl 4) (by decide)
theorem clN {j : Nat} (h : j < 1000) : (nI j).toNatClampNeg = j := nI_clamp (by omega)
theorem posN {j : Nat} (h : j < 1000) : ¬ nI j < 0 := nI_pos (by omega)
theorem wl_find {α β : Type} {f : α → Option (α ⊕ β)} {N : Nat} (st : Nat → α) (P : Nat → Bool) (res : Nat → β) {r : β} (hN : N < 1000) (hs : ∀ j, j < N → f (st j) = if P j = true then some (.inr (res j)) else some (.inl (st (j + 1)))) (hf : f (st N) = some (.inr r)) : (∃ k, k < N ∧ P k = true ∧ (∀ j, j < k → P j = false) ∧ wloop f 1000 (st 0) = some (res k)) ∨ ((∀ k, k < N → P k = false) ∧ wloop f 1000 (st 0) = some r) := by
  rcases least_or (P := fun k => P k = true) N with ⟨k, hk, hP, hl⟩ | h
  · refine .inl ⟨k, hk, hP, fun j hj => Bool.not_eq_true _ ▸ hl j hj, ?_⟩
    refine wl_for0 (N := k) st (fun j hj => ?_) ?_ (by omega)
    · rw [hs j (by omega), if_neg (hl j hj)]
    · rw [hs k hk, if_pos hP]
  · refine .inr ⟨fun k hk => Bool.not_eq_true _ ▸ h k hk, ?_⟩
    exact wl_for0 st (fun j hj => by rw [hs j hj, if_neg (h j hj)]) hf hN
