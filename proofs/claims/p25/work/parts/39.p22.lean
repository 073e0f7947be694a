/-! PURE 22: rights up the chain; the way through a subtree -/
/-- orders of lists -/
def lexQ : List Nat → List Nat → Prop
  | [], [] => False
  | [], _ :: _ => True
  | _ :: _, [] => False
  | a :: s, b :: t => a < b ∨ (a = b ∧ lexQ s t)
theorem lexQ_irr : ∀ s, ¬ lexQ s s
  | [] => fun h => h
  | a :: s => fun h => h.elim (fun q => Nat.lt_irrefl a q) (fun q => lexQ_irr s q.2)
theorem lexQ_tr : ∀ s t u, lexQ s t → lexQ t u → lexQ s u
  | [], [], _, h, _ => False.elim h
  | _ :: _, [], _, h, _ => False.elim h
  | _, _ :: _, [], _, g => False.elim g
  | [], _ :: _, _ :: _, _, _ => trivial
  | a :: s, b :: t, c :: u, h, g => by
    rcases h with h | ⟨rfl, h⟩
    · rcases g with g | ⟨rfl, _⟩
      · exact .inl (Nat.lt_trans h g)
      · exact .inl h
    · rcases g with g | ⟨rfl, g⟩
      · exact .inl g
      · exact .inr ⟨rfl, lexQ_tr s t u h g⟩
theorem lexQ_pre (x : Nat) (t : List Nat) : ∀ s, lexQ s (s ++ x :: t)
  | [] => trivial
  | a :: s => .inr ⟨rfl, lexQ_pre x t s⟩
theorem lexQ_mid {a b : Nat} (h : a < b) (u v : List Nat) : ∀ s, lexQ (s ++ a :: u) (s ++ b :: v)
  | [] => .inl h
  | _ :: s => .inr ⟨rfl, lexQ_mid h u v s⟩
def pthQ (T : AT) : Nat → Nat → List Nat
  | 0, _ => []
  | f + 1, v => if v = 0 then [] else pthQ T f (tPa T v) ++ [ordQ T v]
theorem pthQ_st {T : AT} (w0 : W0 T) : ∀ f v, pw (tPa T) f v = 0 → pthQ T (f + 1) v = pthQ T f v ∨ v ≠ 0 ∧ pthQ T (f + 1) v = pthQ T f v := by
  intro f
  induction f with
  | zero =>
    intro v h
    have hv : v = 0 := h
    left
    show (if v = 0 then [] else pthQ T 0 (tPa T v) ++ [ordQ T v]) = []
    rw [if_pos hv]
  | succ f ih =>
    intro v h
    by_cases hv : v = 0
    · left
      show (if v = 0 then [] else pthQ T (f + 1) (tPa T v) ++ [ordQ T v]) = if v = 0 then [] else pthQ T f (tPa T v) ++ [ordQ T v]
      rw [if_pos hv, if_pos hv]
    · left
      show (if v = 0 then [] else pthQ T (f + 1) (tPa T v) ++ [ordQ T v]) = if v = 0 then [] else pthQ T f (tPa T v) ++ [ordQ T v]
      have e : pthQ T (f + 1) (tPa T v) = pthQ T f (tPa T v) := (ih (tPa T v) h).elim id (fun q => q.2)
      rw [if_neg hv, if_neg hv, e]
theorem pthQ_s {T : AT} (w0 : W0 T) (w1 : W1 T) (w2 : W2 T) {v : Nat} (hv : v < 42) (h0 : v ≠ 0) : pthQ T 42 v = pthQ T 42 (tPa T v) ++ [ordQ T v] := by
  obtain ⟨n, h1, h2, _⟩ := pw_bd w1 w2 hv
  have h3 : pw (tPa T) 42 v = 0 := pw_stay w0.2.2.1 h2 (by omega)
  have e : pthQ T 43 v = pthQ T 42 v := (pthQ_st w0 42 v h3).elim id (fun q => q.2)
  rw [← e]
  show (if v = 0 then [] else pthQ T 42 (tPa T v) ++ [ordQ T v]) = _
  rw [if_neg h0]
/-- an ancestor's path begins one's own -/
theorem pthQ_anc {T : AT} (w0 : W0 T) (w1 : W1 T) (w2 : W2 T) : ∀ i v, v < 42 → ∃ t, pthQ T 42 v = pthQ T 42 (pw (tPa T) i v) ++ t := by
  intro i
  induction i with
  | zero => intro v _; exact ⟨[], (List.append_nil _).symm⟩
  | succ i ih =>
    intro v hv
    by_cases h0 : v = 0
    · refine ⟨[], ?_⟩
      rw [h0, pw_stay (n := 0) w0.2.2.1 rfl (Nat.zero_le _), List.append_nil]
    · obtain ⟨t, ht⟩ := ih (tPa T v) (w1 v hv)
      refine ⟨t ++ [ordQ T v], ?_⟩
      rw [pthQ_s w0 w1 w2 hv h0, ht, List.append_assoc]
      rfl
