/-! PURE 22: rights up the chain; the way through a subtree -/
theorem counted_ok {S M : St} {T : AT} {i p : Nat} (hi : i < 3) (hp : p < 42) (ht : tTh T p = true) (w0 : W0 T) (w1 : W1 T) (w2 : W2 T) (hc : CLO T none) (h3 : E3 S T (-1)) (g3 : M19 M T (-1)) (hR : RR S M) : ∃ v : Int32, X3_rightThatCounts S (nI i) (nI p) = some v ∧ X6_counted M (nI i) (nI p) = some v := by
  obtain ⟨n, h1, h2, hl⟩ := pw_bd w1 w2 hp
  have rt : ∀ j, S 25 (42 * i + pw (tPa T) j p) = M 12 (42 * i + pw (tPa T) j p) ∧ TRI (M 12 (42 * i + pw (tPa T) j p)) := fun j => hR.1 _ (by have := pw_lt w1 hp j; omega)
  have nx : ∀ j, j < n + 1 → paI T (pw (tPa T) j p) = (if j + 1 ≤ n then nI (pw (tPa T) (j + 1) p) else -1) := fun j hj => by
    unfold paI
    by_cases hj2 : j + 1 ≤ n
    · rw [if_pos ⟨pw_th hc w1 hp ht j, hl j (by omega)⟩, if_pos hj2, pw_s]
    · rw [if_neg hj2, if_neg (fun q => q.2 (by rw [show j = n by omega]; exact h2))]
  have e0 := wl_find (f := fun a' : (Int32 × Int32 × Int32) => X3_rightThatCounts_H6 S a'.1 a'.2.1 a'.2.2) (N := n + 1) (fun j => (nI i, (if j ≤ n then nI (pw (tPa T) j p) else -1), nI j)) (fun j => decide (¬ M 12 (42 * i + pw (tPa T) j p) = -1)) (fun j => M 12 (42 * i + pw (tPa T) j p)) (r := 0) (by omega) (fun j hj => ?_) ?_
  · have m0 := wl_find (f := fun a' : (Int32 × Int32) => X6_counted_H2 M a'.1 a'.2) (N := n + 1) (fun j => (nI i, (if j ≤ n then nI (pw (tPa T) j p) else -1))) (fun j => decide (¬ M 12 (42 * i + pw (tPa T) j p) = -1)) (fun j => M 12 (42 * i + pw (tPa T) j p)) (r := 0) (by omega) (fun j hj => ?_) ?_
    · rcases e0 with ⟨k, k1, k2, k3, k4⟩ | ⟨k1, k2⟩
      · rcases m0 with ⟨y, y1, y2, y3, y4⟩ | ⟨y1, y2⟩
        · have : k = y := by
            rcases Nat.lt_trichotomy k y with z | z | z
            · rw [y3 k z] at k2; exact absurd k2 (by decide)
            · exact z
            · rw [k3 y z] at y2; exact absurd y2 (by decide)
          subst this
          exact ⟨_, k4, y4⟩
        · rw [y1 k k1] at k2; exact absurd k2 (by decide)
      · rcases m0 with ⟨y, y1, y2, y3, y4⟩ | ⟨y1, y2⟩
        · rw [k1 y y1] at y2; exact absurd y2 (by decide)
        · exact ⟨_, k2, y2⟩
    · have hc42 := pw_lt w1 hp j
      have nxj := nx j hj
      rw [paI_th (pw_th hc w1 hp ht j)] at nxj
      show X6_counted_H2 M (nI i) (if j ≤ n then nI (pw (tPa T) j p) else -1) = if decide (¬ M 12 (42 * i + pw (tPa T) j p) = -1) = true then some (Sum.inr (M 12 (42 * i + pw (tPa T) j p))) else some (Sum.inl (nI i, (if j + 1 ≤ n then nI (pw (tPa T) (j + 1) p) else -1)))
      unfold X6_counted_H2
      rw [if_pos (show j ≤ n by omega), if_neg (nI_pos (by omega)), ix42', if_pos (in126 (by omega)), clN (show 42 * i + pw (tPa T) j p < 1000 by omega), if_pos (in42 hc42), cl42 hc42, g3 _ hc42 (nI_nn (by omega)) (pw_th hc w1 hp ht j), nxj]
      rcases (rt j).2 with q | q | q
      · rw [q, if_neg (show ¬ (0 : Int32) ≤ -1 by decide), if_neg (show ¬ decide (¬ (-1 : Int32) = -1) = true by decide)]
      · have b30 : X6_counted_b30 M (nI i) (nI (pw (tPa T) j p)) = some 0 := by
          unfold X6_counted_b30 X6_counted_b49
          rw [if_pos (nI_pos' (by omega)), ix42', if_pos (in126 (by omega)), clN (show 42 * i + pw (tPa T) j p < 1000 by omega), q]
        rw [q, if_pos (by decide), if_pos (by decide), b30]
        rfl
      · have b30 : X6_counted_b30 M (nI i) (nI (pw (tPa T) j p)) = some 1 := by
          unfold X6_counted_b30 X6_counted_b49
          rw [if_pos (nI_pos' (by omega)), ix42', if_pos (in126 (by omega)), clN (show 42 * i + pw (tPa T) j p < 1000 by omega), q]
        rw [q, if_pos (by decide), if_pos (by decide), b30]
        rfl
    · show X6_counted_H2 M (nI i) (if n + 1 ≤ n then nI (pw (tPa T) (n + 1) p) else -1) = _
      rw [if_neg (by omega)]
      unfold X6_counted_H2 X6_counted_b30 X6_counted_b49
      rw [if_pos (by decide), if_neg (by decide)]
      rfl
  · have hc42 := pw_lt w1 hp j
    have nxj := nx j hj
    show X3_rightThatCounts_H6 S (nI i) (if j ≤ n then nI (pw (tPa T) j p) else -1) (nI j) = if decide (¬ M 12 (42 * i + pw (tPa T) j p) = -1) = true then some (Sum.inr (M 12 (42 * i + pw (tPa T) j p))) else some (Sum.inl (nI i, (if j + 1 ≤ n then nI (pw (tPa T) (j + 1) p) else -1), nI (j + 1)))
    unfold X3_rightThatCounts_H6 X3_rightThatCounts_b41
    rw [if_pos (show j ≤ n by omega), if_neg (ge42 (by omega)), if_neg (nI_nn (by omega)), ix42, at_in (by omega) (by decide), bs, (rt j).1, parentAt_ok h3 hc42, bs, nxj, nI_succ]
    by_cases q : M 12 (42 * i + pw (tPa T) j p) = -1
    · rw [if_pos q, if_neg (fun z => (of_decide_eq_true z : ¬ M 12 (42 * i + pw (tPa T) j p) = -1) q)]
    · rw [if_neg q, if_pos (decide_eq_true q)]
      rfl
  · show X3_rightThatCounts_H6 S (nI i) (if n + 1 ≤ n then nI (pw (tPa T) (n + 1) p) else -1) (nI (n + 1)) = _
    rw [if_neg (by omega)]
    unfold X3_rightThatCounts_H6 X3_rightThatCounts_b58
    by_cases h42 : (42 : Int32) ≤ nI (n + 1)
    · rw [if_pos h42]
      rfl
    · rw [if_neg h42, if_pos rfl]
      rfl
/-- orders of lists -/
def lexQ : List Nat → List Nat → Prop
  | [], [] => False
  | [], _ :: _ => True
  | _ :: _, [] => False
  | a :: s, b :: t => a < b ∨ (a = b ∧ lexQ s t)
theorem lexQ_irr : ∀ s, ¬ lexQ s s
  | [] => fun h => h
  | a :: s => fun h => h.elim (fun q => Nat.lt_irrefl a q) (fun q => lexQ_irr s q.2)
theorem lexQ_tr : ∀ s t u, lexQ s t → lexQ t u → lexQ s u
  | [], [], _, h, _ => False.elim h
  | _ :: _, [], _, h, _ => False.elim h
  | _, _ :: _, [], _, g => False.elim g
  | [], _ :: _, _ :: _, _, _ => trivial
  | a :: s, b :: t, c :: u, h, g => by
    rcases h with h | ⟨rfl, h⟩
    · rcases g with g | ⟨rfl, _⟩
      · exact .inl (Nat.lt_trans h g)
      · exact .inl h
    · rcases g with g | ⟨rfl, g⟩
      · exact .inl g
      · exact .inr ⟨rfl, lexQ_tr s t u h g⟩
theorem lexQ_pre (x : Nat) (t : List Nat) : ∀ s, lexQ s (s ++ x :: t)
  | [] => trivial
  | a :: s => .inr ⟨rfl, lexQ_pre x t s⟩
theorem lexQ_mid {a b : Nat} (h : a < b) (u v : List Nat) : ∀ s, lexQ (s ++ a :: u) (s ++ b :: v)
  | [] => .inl h
  | _ :: s => .inr ⟨rfl, lexQ_mid h u v s⟩
def pthQ (T : AT) : Nat → Nat → List Nat
  | 0, _ => []
  | f + 1, v => if v = 0 then [] else pthQ T f (tPa T v) ++ [ordQ T v]
theorem pthQ_st {T : AT} (w0 : W0 T) : ∀ f v, pw (tPa T) f v = 0 → pthQ T (f + 1) v = pthQ T f v ∨ v ≠ 0 ∧ pthQ T (f + 1) v = pthQ T f v := by
  intro f
  induction f with
  | zero =>
    intro v h
    have hv : v = 0 := h
    left
    show (if v = 0 then [] else pthQ T 0 (tPa T v) ++ [ordQ T v]) = []
    rw [if_pos hv]
  | succ f ih =>
    intro v h
    by_cases hv : v = 0
    · left
      show (if v = 0 then [] else pthQ T (f + 1) (tPa T v) ++ [ordQ T v]) = if v = 0 then [] else pthQ T f (tPa T v) ++ [ordQ T v]
      rw [if_pos hv, if_pos hv]
    · left
      show (if v = 0 then [] else pthQ T (f + 1) (tPa T v) ++ [ordQ T v]) = if v = 0 then [] else pthQ T f (tPa T v) ++ [ordQ T v]
      have e : pthQ T (f + 1) (tPa T v) = pthQ T f (tPa T v) := (ih (tPa T v) h).elim id (fun q => q.2)
      rw [if_neg hv, if_neg hv, e]
theorem pthQ_s {T : AT} (w0 : W0 T) (w1 : W1 T) (w2 : W2 T) {v : Nat} (hv : v < 42) (h0 : v ≠ 0) : pthQ T 42 v = pthQ T 42 (tPa T v) ++ [ordQ T v] := by
  obtain ⟨n, h1, h2, _⟩ := pw_bd w1 w2 hv
  have h3 : pw (tPa T) 42 v = 0 := pw_stay w0.2.2.1 h2 (by omega)
  have e : pthQ T 43 v = pthQ T 42 v := (pthQ_st w0 42 v h3).elim id (fun q => q.2)
  rw [← e]
  show (if v = 0 then [] else pthQ T 42 (tPa T v) ++ [ordQ T v]) = _
  rw [if_neg h0]
/-- an ancestor's path begins one's own -/
theorem pthQ_anc {T : AT} (w0 : W0 T) (w1 : W1 T) (w2 : W2 T) : ∀ i v, v < 42 → ∃ t, pthQ T 42 v = pthQ T 42 (pw (tPa T) i v) ++ t := by
  intro i
  induction i with
  | zero => intro v _; exact ⟨[], (List.append_nil _).symm⟩
  | succ i ih =>
    intro v hv
    by_cases h0 : v = 0
    · refine ⟨[], ?_⟩
      rw [h0, pw_stay (n := 0) w0.2.2.1 rfl (Nat.zero_le _), List.append_nil]
    · obtain ⟨t, ht⟩ := ih (tPa T v) (w1 v hv)
      refine ⟨t ++ [ordQ T v], ?_⟩
      rw [pthQ_s w0 w1 w2 hv h0, ht, List.append_assoc]
      rfl
