/-! PURE 3: hanging, chains -/
theorem bit1 : ¬ bI true = 0 := by decide
theorem bit0 : bI false = 0 := rfl
theorem hom_lt {T : AT} {p : Nat} (hp : p < 42) : hom T p < 42 := by
  unfold hom
  split <;> omega
theorem tTh_hang (T : AT) (x p : Nat) : tTh (hang T x p) = tTh T := rfl
theorem tPa_hang (T : AT) (x p : Nat) : tPa (hang T x p) = fu (tPa T) x (hom T p) := rfl
theorem tLa_hang (T : AT) (x p : Nat) : tLa (hang T x p) = fu (tLa T) x (if anyHit T (hom T p) (tLa T x) (nI x) = true then none else tLa T x) := rfl
theorem tIt_hang (T : AT) (x p : Nat) : tIt (hang T x p) = tIt T := rfl
theorem tVa_hang (T : AT) (x p : Nat) : tVa (hang T x p) = tVa T := rfl
theorem paI_hang {T : AT} {x p k : Nat} (h : k ≠ x) : paI (hang T x p) k = paI T k := by
  unfold paI
  rw [tTh_hang, tPa_hang, fu_n h]
theorem paM_hang {T : AT} {x p k : Nat} (h : k ≠ x) : paM (hang T x p) k = paM T k := by
  unfold paM
  rw [tPa_hang, fu_n h]
theorem hang_E {S S' : St} {T : AT} {x p : Nat} (hx0 : x ≠ 0) (hx : x < 42) (hth : tTh T x = true) (h2 : E2 S T) (h3 : E3 S T (nI x)) (hf : ∀ k, k ≠ 3 → k ≠ 4 → S' k = S k) (h3' : S' 3 = upd (S 3) x (nI (hom T p))) : E2 S' (hang T x p) ∧ E3 S' (hang T x p) (-1) := by
  refine ⟨fun k hk => ?_, fun k hk _ => ?_⟩
  · rw [hf 2 (by decide) (by decide)]
    exact h2 k hk
  · rw [h3']
    by_cases h : k = x
    · rw [h, upd_s]
      unfold paI
      rw [tTh_hang, if_pos ⟨hth, hx0⟩, tPa_hang, fu_s]
    · rw [upd_n h, paI_hang h]
      exact h3 k hk (fun q => h ((nI_eq (by omega) (by omega)).mp q))
theorem settle_ok {S : St} {T : AT} {x p : Nat} (hx0 : x ≠ 0) (hx : x < 42) (hp : p < 42) (w1 : W1 T) (w3 : W3 T) (h2 : E2 S T) (h3 : E3 S T (nI x)) (h4 : E4 S T) (hth : tTh T x = true) : ∃ S', X4_settle S (nI x) (nI p) = some S' ∧ E2 S' (hang T x p) ∧ E3 S' (hang T x p) (-1) ∧ E4 S' (hang T x p) ∧ ∀ k, k ≠ 3 → k ≠ 4 → S' k = S k := by
  have hq : hom T p < 42 := hom_lt hp
  have h22 : X4_settle S (nI x) (nI p) = X4_settle_b22 S (nI x) (nI (hom T p)) := by
    unfold X4_settle
    rw [has_ok h2 hx, bs, hth, if_neg bit1, has_ok h2 hp, bs]
    unfold hom
    cases tTh T p
    · rw [if_pos bit0, if_neg (by decide)]
      rfl
    · rw [if_neg bit1, if_pos rfl]
  rw [h22]
  unfold X4_settle_b22 X4_settle_b46 X4_settle_b53
  rw [if_pos (in42 hx), cl42 hx, h4 x hx]
  rcases cwl_ok hq h3 h4 w1 w3 (w3 x) with ⟨k, hk, hP, hr⟩ | ⟨hn, hr⟩
  · rw [hr, bs, if_neg (nI_nn (by omega)), if_pos (in42 hx), if_pos (in42 hx)]
    have hf : ∀ k, k ≠ 3 → k ≠ 4 → up (up S 4 (upd (S 4) x (-1))) 3 (upd ((up S 4 (upd (S 4) x (-1))) 3) x (nI (hom T p))) k = S k := fun k a b => by rw [up_n a, up_n b]
    refine ⟨_, rfl, (hang_E (p := p) hx0 hx hth h2 h3 hf (by rw [up_s, up_n (by decide)])).1, (hang_E (p := p) hx0 hx hth h2 h3 hf (by rw [up_s, up_n (by decide)])).2, fun k hk => ?_, hf⟩
    rw [up_n (by decide), up_s, tLa_hang, if_pos (anyHit_t ‹_› hP)]
    by_cases h : k = x
    · rw [h, upd_s, fu_s]
      rfl
    · rw [upd_n h, fu_n h]
      exact h4 k hk
  · rw [hr, bs, if_pos rfl, if_pos (in42 hx)]
    have hf : ∀ k, k ≠ 3 → k ≠ 4 → up S 3 (upd (S 3) x (nI (hom T p))) k = S k := fun k a b => up_n a
    refine ⟨_, rfl, (hang_E (p := p) hx0 hx hth h2 h3 hf up_s).1, (hang_E (p := p) hx0 hx hth h2 h3 hf up_s).2, fun k hk => ?_, hf⟩
    rw [up_n (by decide), tLa_hang, if_neg (by rw [anyHit_f hn]; decide)]
    by_cases h : k = x
    · rw [h, fu_s]
      exact h4 x hx
    · rw [fu_n h]
      exact h4 k hk
/-- chains of parents -/
theorem pw_add (f : Nat → Nat) : ∀ a b v, pw f (a + b) v = pw f b (pw f a v) := by
  intro a
  induction a with
  | zero => intro b v; rw [Nat.zero_add]; rfl
  | succ n ih => intro b v; rw [Nat.add_right_comm]; exact ih b (f v)
theorem pw_s (f : Nat → Nat) (n v : Nat) : pw f (n + 1) v = f (pw f n v) := pw_add f n 1 v
theorem pw_stay {f : Nat → Nat} (h0 : f 0 = 0) {n m v : Nat} (h : pw f n v = 0) (hm : n ≤ m) : pw f m v = 0 := by
  obtain ⟨d, rfl⟩ := Nat.exists_eq_add_of_le hm
  induction d with
  | zero => exact h
  | succ d ih => rw [show n + (d + 1) = (n + d) + 1 from rfl, pw_s, ih (Nat.le_add_right _ _), h0]
theorem php : ∀ (N : Nat) (f : Nat → Nat), (∀ i, i ≤ N → f i < N) → ∃ i j, i < j ∧ j ≤ N ∧ f i = f j := by
  intro N
  induction N with
  | zero => intro f h; exact absurd (h 0 (Nat.le_refl 0)) (Nat.not_lt_zero _)
  | succ N ih =>
    intro f h
    by_cases hc : ∃ i, i ≤ N ∧ f i = f (N + 1)
    · obtain ⟨i, h1, h2⟩ := hc
      exact ⟨i, N + 1, by omega, Nat.le_refl _, h2⟩
    · have hne : ∀ i, i ≤ N → f i ≠ f (N + 1) := fun i hi q => hc ⟨i, hi, q⟩
      have hm := h (N + 1) (Nat.le_refl _)
      obtain ⟨i, j, a, b, c⟩ := ih (fun i => if f (N + 1) < f i then f i - 1 else f i) (fun i hi => by
        have h1 := h i (by omega)
        have h2 := hne i hi
        show (if f (N + 1) < f i then f i - 1 else f i) < N
        split <;> omega)
      refine ⟨i, j, a, by omega, ?_⟩
      have h1 := hne i (by omega)
      have h2 := hne j b
      have c' : (if f (N + 1) < f i then f i - 1 else f i) = (if f (N + 1) < f j then f j - 1 else f j) := c
      split at c' <;> split at c' <;> omega
theorem pw_lt {T : AT} (w1 : W1 T) {v : Nat} (hv : v < 42) : ∀ n, pw (tPa T) n v < 42 := by
  intro n
  induction n with
  | zero => exact hv
  | succ n ih => rw [pw_s]; exact w1 _ ih
theorem pw_bd {T : AT} (w1 : W1 T) (w2 : W2 T) {v : Nat} (hv : v < 42) : ∃ n, n ≤ 41 ∧ pw (tPa T) n v = 0 ∧ ∀ j, j < n → pw (tPa T) j v ≠ 0 := by
  obtain ⟨n, hn, hl⟩ := pk_least _ (w2 v hv)
  refine ⟨n, ?_, hn, hl⟩
  rcases Nat.lt_or_ge 41 n with h | h
  · exfalso
    obtain ⟨i, j, a, b, c⟩ := php 42 (fun j => pw (tPa T) j v) (fun i _ => pw_lt w1 hv i)
    have c' : pw (tPa T) i v = pw (tPa T) j v := c
    refine hl (i + (n - j)) (by omega) ?_
    rw [pw_add, c', ← pw_add, show j + (n - j) = n by omega]
    exact hn
  · exact h
theorem pw_th {T : AT} (hc : CLO T none) (w1 : W1 T) {v : Nat} (hv : v < 42) (ht : tTh T v = true) : ∀ n, tTh T (pw (tPa T) n v) = true := by
  intro n
  induction n with
  | zero => exact ht
  | succ n ih =>
    rw [pw_s]
    exact (hc _ (pw_lt w1 hv n) ih).elim id (fun q => nomatch q)
theorem bel_t {T : AT} {p x n : Nat} (hn : n < 42) (h : pw (tPa T) n p = x) : bel T p x = true := List.any_eq_true.mpr ⟨n, List.mem_range.mpr hn, decide_eq_true h⟩
theorem bel_f {T : AT} {p x : Nat} (h : ∀ n, n < 42 → pw (tPa T) n p ≠ x) : bel T p x = false := by
  cases hb : bel T p x
  · rfl
  · obtain ⟨k, hk, hk2⟩ := List.any_eq_true.mp hb
    exact absurd (of_decide_eq_true hk2) (h k (List.mem_range.mp hk))
theorem bel_no {T : AT} {p x : Nat} (h : bel T p x = false) {n : Nat} (hn : n < 42) : pw (tPa T) n p ≠ x := fun q => by
  rw [bel_t hn q] at h
  exact absurd h (by decide)
theorem bel_all {T : AT} (w0 : W0 T) (w1 : W1 T) (w2 : W2 T) {p x : Nat} (hp : p < 42) (hx0 : x ≠ 0) (h : bel T p x = false) (n : Nat) : pw (tPa T) n p ≠ x := by
  rcases Nat.lt_or_ge n 42 with q | q
  · exact bel_no h q
  · obtain ⟨m, h1, h2, _⟩ := pw_bd w1 w2 hp
    rw [pw_stay w0.2.2.1 h2 (by omega)]
    exact fun q => hx0 q.symm
theorem parentAt_ok {S : St} {T : AT} {k : Nat} (h3 : E3 S T (-1)) (hk : k < 42) : X4_parentAt S (nI k) = some (paI T k) := by
  unfold X4_parentAt
  rw [at_in hk (by decide), bs, h3 k hk (nI_nn (by omega))]
theorem below_ok {S : St} {T : AT} {p x : Nat} (hx0 : x ≠ 0) (hx : x < 42) (hp : p < 42) (hth : tTh T x = true) (w0 : W0 T) (w1 : W1 T) (w2 : W2 T) (hc : CLO T none) (h3 : E3 S T (-1)) : X4_isAtOrBelow S (nI p) (nI x) = some (bI (tTh T p && bel T p x)) := by
  cases ht : tTh T p
  · have hpx : p ≠ x := fun q => by rw [q, hth] at ht; exact absurd ht (by decide)
    refine wl_for0 (f := fun a' : (Int32 × Int32 × Int32) => X4_isAtOrBelow_H5 S a'.1 a'.2.1 a'.2.2) (N := 1) (fun j => (nI x, (if j = 0 then nI p else -1), nI j)) (fun j hj => ?_) ?_ (by decide)
    · have : j = 0 := by omega
      subst this
      show X4_isAtOrBelow_H5 S (nI x) (nI p) (nI 0) = some (.inl (nI x, -1, nI 1))
      unfold X4_isAtOrBelow_H5
      rw [if_neg (by decide), if_neg (nI_nn (by omega)), if_neg (fun q => hpx ((nI_eq (by omega) (by omega)).mp q)), parentAt_ok h3 hp, bs]
      unfold paI
      rw [if_neg (fun q => by rw [q.1] at ht; exact absurd ht (by decide))]
      rfl
    · show X4_isAtOrBelow_H5 S (nI x) (-1) (nI 1) = _
      unfold X4_isAtOrBelow_H5
      rw [if_neg (by decide), if_pos rfl]
      rfl
  · obtain ⟨n, h1, h2, hl⟩ := pw_bd w1 w2 hp
    have key := wl_find (f := fun a' : (Int32 × Int32 × Int32) => X4_isAtOrBelow_H5 S a'.1 a'.2.1 a'.2.2) (N := n + 1) (fun j => (nI x, (if j ≤ n then nI (pw (tPa T) j p) else -1), nI j)) (fun j => decide (pw (tPa T) j p = x)) (fun _ => (1 : Int32)) (r := 0) (by omega) (fun j hj => ?_) ?_
    · rcases key with ⟨k, hk, hP, _, h⟩ | ⟨hn, h⟩
      · rw [bel_t (by omega) (of_decide_eq_true hP)]
        exact h
      · rw [bel_f (fun m hm => ?_)]
        · exact h
        · rcases Nat.lt_or_ge m (n + 1) with q | q
          · exact of_decide_eq_false (hn m q)
          · rw [pw_stay w0.2.2.1 h2 (by omega)]
            exact fun q => hx0 q.symm
    · show X4_isAtOrBelow_H5 S (nI x) (if j ≤ n then nI (pw (tPa T) j p) else -1) (nI j) = if decide (pw (tPa T) j p = x) = true then _ else some (.inl (nI x, (if j + 1 ≤ n then nI (pw (tPa T) (j + 1) p) else -1), nI (j + 1)))
      have hc42 := pw_lt w1 hp j
      unfold X4_isAtOrBelow_H5
      rw [if_pos (show j ≤ n by omega), if_neg (ge42 (by omega)), if_neg (nI_nn (by omega))]
      by_cases hq : pw (tPa T) j p = x
      · rw [if_pos (by rw [hq]), if_pos (decide_eq_true hq)]
        rfl
      · rw [if_neg (fun q => hq ((nI_eq (by omega) (by omega)).mp q)), if_neg (by rw [decide_eq_true_eq]; exact hq), parentAt_ok h3 hc42, bs, nI_succ]
        unfold paI
        by_cases hj2 : j + 1 ≤ n
        · rw [if_pos ⟨pw_th hc w1 hp ht j, hl j (by omega)⟩, if_pos hj2, pw_s]
        · rw [if_neg hj2, if_neg (fun q => q.2 (by rw [show j = n by omega]; exact h2))]
    · show X4_isAtOrBelow_H5 S (nI x) (if n + 1 ≤ n then nI (pw (tPa T) (n + 1) p) else -1) (nI (n + 1)) = _
      rw [if_neg (by omega)]
      unfold X4_isAtOrBelow_H5
      by_cases h42 : (42 : Int32) ≤ nI (n + 1)
      · rw [if_pos h42]
        rfl
      · rw [if_neg h42, if_pos rfl]
        rfl
