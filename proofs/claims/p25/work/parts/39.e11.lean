/-! PURE 11: a new change -/
def mxT (bt tm : Nat → Nat) (m : Nat) : Nat → Nat := fr (fun j a => if (bt j).testBit m = true ∧ ¬ tm j ≤ a then tm j else a) 0
theorem mxT_ge {bt tm : Nat → Nat} {m : Nat} : ∀ n j, j < n → (bt j).testBit m = true → tm j ≤ mxT bt tm m n := by
  intro n
  induction n with
  | zero => intro j hj; exact absurd hj (Nat.not_lt_zero j)
  | succ n ih =>
    intro j hj hb
    show tm j ≤ if (bt n).testBit m = true ∧ ¬ tm n ≤ mxT bt tm m n then tm n else mxT bt tm m n
    rcases Nat.lt_or_ge j n with h | h
    · have := ih j h hb
      split <;> omega
    · have e : j = n := by omega
      rw [e] at hb ⊢
      by_cases q : tm n ≤ mxT bt tm m n
      · rw [if_neg (fun z => z.2 q)]; exact q
      · rw [if_pos ⟨hb, q⟩]; exact Nat.le_refl _
theorem mxT_in {bt tm : Nat → Nat} {m : Nat} : ∀ n, mxT bt tm m n = 0 ∨ ∃ j, j < n ∧ (bt j).testBit m = true ∧ mxT bt tm m n = tm j := by
  intro n
  induction n with
  | zero => exact .inl rfl
  | succ n ih =>
    show (if (bt n).testBit m = true ∧ ¬ tm n ≤ mxT bt tm m n then tm n else mxT bt tm m n) = 0 ∨ ∃ j, j < n + 1 ∧ (bt j).testBit m = true ∧ (if (bt n).testBit m = true ∧ ¬ tm n ≤ mxT bt tm m n then tm n else mxT bt tm m n) = tm j
    by_cases q : (bt n).testBit m = true ∧ ¬ tm n ≤ mxT bt tm m n
    · rw [if_pos q]
      exact .inr ⟨n, Nat.lt_succ_self n, q.1, rfl⟩
    · rw [if_neg q]
      rcases ih with h | ⟨j, a, b, c⟩
      · exact .inl h
      · exact .inr ⟨j, by omega, b, c⟩
theorem mxT_le {n : Nat} {lg : Nat → CH} {tm mk bt : Nat → Nat} {m : Nat} (hw : LOGW n lg tm mk bt) : ∀ k, k ≤ n → mxT bt tm m k ≤ k := by
  intro k hk
  rcases mxT_in (bt := bt) (tm := tm) (m := m) k with h | ⟨j, a, b, c⟩
  · omega
  · have := (hw.2.1 j (by omega)).2.1
    omega
theorem shl1 {m : Nat} (hm : m < 2) : (1 : Int32) <<< (nI m &&& 31) = nI (2 ^ m) := by
  have : m = 0 ∨ m = 1 := by omega
  rcases this with rfl | rfl <;> decide
theorem stamp_ok {S : St} {m n : Nat} {lg : Nat → CH} {tm mk bt A : Nat → Nat} {L : List Nat} (hw : LOGW n lg tm mk bt) (hm : m < 2) (he : LOGE S n lg (stp tm mk)) (hT : TR S m n lg bt (stp tm mk) A L) : X4_stampOfNext S = some (nI (2 * (mxT bt tm m n + 1) + m)) := by
  obtain ⟨d1, d2, d3, _, _⟩ := hT
  have h40 := hw.1
  have hlen := d3.len h40
  have hmx := mxT_le (m := m) hw n (Nat.le_refl n)
  have e31 : ∀ k, k ≤ 100 → X4_stampOfNext_b31 S (nI k) = some (nI (2 * (k + 1) + m)) := fun k hk => by
    unfold X4_stampOfNext_b31 X2_stampFrom
    rw [bs, d1, ← nI_succ, show (2 : Int32) = nI 2 from rfl, pk_mul, nI_add, Nat.mul_comm]
  unfold X4_stampOfNext
  rw [d2.1]
  rcases Nat.eq_zero_or_pos L.length with h | h
  · have h0 : mxT bt tm m n = 0 := by
      rcases mxT_in (bt := bt) (tm := tm) (m := m) n with q | ⟨j, a, b, c⟩
      · exact q
      · have hj := (d3.2 j).mpr ⟨a, b⟩
        rw [List.length_eq_zero_iff.mp h] at hj
        exact nomatch hj
    rw [h, if_pos (show nI 0 = 0 from nI_0), h0]
    exact e31 0 (by omega)
  · obtain ⟨q, hq⟩ : ∃ q, L.length = q + 1 := ⟨L.length - 1, by omega⟩
    obtain ⟨c, hc, hcm⟩ := get_lt (L := L) (i := q) (by omega)
    have hcn := (d3.2 c).mp hcm
    have hbc := hw.2.1 c hcn.1
    have hmx2 : mxT bt tm m n = tm c := by
      have h1 := mxT_ge (bt := bt) (tm := tm) (m := m) n c hcn.1 hcn.2
      rcases mxT_in (bt := bt) (tm := tm) (m := m) n with z | ⟨j, a, b, e⟩
      · omega
      · obtain ⟨i, hi1, hi2⟩ := List.mem_iff_getElem.mp ((d3.2 j).mpr ⟨a, b⟩)
        have hij : L[i]? = some j := by rw [List.getElem?_eq_getElem hi1, hi2]
        have hbj := hw.2.1 j a
        rcases Nat.lt_or_ge i q with z | z
        · have hlt := so_idx_lt L d3.1 i q j c z hij hc
          unfold stp at hlt
          omega
        · rw [show i = q by omega, hc] at hij
          rw [e, Option.some.inj hij]
    rw [hq, if_neg (nI_ne0 (by omega) (by omega)), nI_pred, at_in (by omega) (by decide), bs, d2.2 q c hc]
    unfold X2_timeAt
    rw [at_in (by omega) (by decide), bs, bs, (he.2 c hcn.1).2, show (2 : Int32) = nI 2 from rfl, pk_div (by unfold stp; omega) (by decide) (by decide), show stp tm mk c / 2 = tm c by unfold stp; omega, hmx2]
    exact e31 (tm c) (by omega)
theorem stepC_congr {A : Nat → Nat} {lg lg' : Nat → CH} : ∀ (L : List Nat) (T : AT), (∀ c, c ∈ L → lg' c = lg c) → L.foldl (fun T c => stepC A T (lg' c)) T = L.foldl (fun T c => stepC A T (lg c)) T
  | [], _, _ => rfl
  | c :: t, T, h => by
    show t.foldl (fun T c => stepC A T (lg' c)) (stepC A T (lg' c)) = t.foldl (fun T c => stepC A T (lg c)) (stepC A T (lg c))
    rw [h c (List.mem_cons.mpr (.inl rfl))]
    exact stepC_congr t _ (fun d hd => h d (List.mem_cons.mpr (.inr hd)))
theorem repl_congr {A : Nat → Nat} {lg lg' : Nat → CH} {L : List Nat} (h : ∀ c, c ∈ L → lg' c = lg c) : repl A lg' L = repl A lg L := stepC_congr L T0 h
theorem posL_top {st : Nat → Nat} {c : Nat} : ∀ L : List Nat, (∀ d, d ∈ L → st d < st c) → posL st c L = L.length
  | [], _ => rfl
  | a :: t, h => by
    have ha := h a (List.mem_cons.mpr (.inl rfl))
    show (if st c < st a then 0 else posL st c t + 1) = t.length + 1
    rw [if_neg (by omega), posL_top t (fun d hd => h d (List.mem_cons.mpr (.inr hd)))]
theorem SO.congr {st st' : Nat → Nat} {L : List Nat} (h : SO st L) (e : ∀ c, c ∈ L → st' c = st c) : SO st' L := by
  refine List.Pairwise.imp_of_mem (fun {a b} ha hb q => ?_) h
  rw [e a ha, e b hb]
  exact q
