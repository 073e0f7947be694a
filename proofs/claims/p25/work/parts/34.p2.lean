/-! PURE 2: the tree, and what the class and the model do to it -/
abbrev AT : Type := (Nat → Bool) × (Nat → Nat) × (Nat → Option Nat) × (Nat → Nat) × (Nat → Option Nat)
def tTh (T : AT) : Nat → Bool := T.1
def tPa (T : AT) : Nat → Nat := T.2.1
def tLa (T : AT) : Nat → Option Nat := T.2.2.1
def tIt (T : AT) : Nat → Nat := T.2.2.2.1
def tVa (T : AT) : Nat → Option Nat := T.2.2.2.2
def fu {α : Type} (f : Nat → α) (k : Nat) (x : α) : Nat → α := fun j => if j = k then x else f j
theorem fu_s {α : Type} {f : Nat → α} {k : Nat} {x : α} : fu f k x k = x := if_pos rfl
theorem fu_n {α : Type} {f : Nat → α} {k j : Nat} {x : α} (h : j ≠ k) : fu f k x j = f j := if_neg h
def sTh (T : AT) (k : Nat) (b : Bool) : AT := (fu (tTh T) k b, tPa T, tLa T, tIt T, tVa T)
def sPa (T : AT) (k p : Nat) : AT := (tTh T, fu (tPa T) k p, tLa T, tIt T, tVa T)
def sLa (T : AT) (k : Nat) (o : Option Nat) : AT := (tTh T, tPa T, fu (tLa T) k o, tIt T, tVa T)
def sIt (T : AT) (k i : Nat) : AT := (tTh T, tPa T, tLa T, fu (tIt T) k i, tVa T)
def sVa (T : AT) (k : Nat) (o : Option Nat) : AT := (tTh T, tPa T, tLa T, tIt T, fu (tVa T) k o)
def pw (f : Nat → Nat) : Nat → Nat → Nat
  | 0, v => v
  | n + 1, v => pw f n (f v)
def paI (T : AT) (k : Nat) : Int32 := if tTh T k = true ∧ k ≠ 0 then nI (tPa T k) else -1
def paM (T : AT) (k : Nat) : Int32 := if k = 0 then -1 else nI (tPa T k)
def hom (T : AT) (p : Nat) : Nat := if tTh T p = true then p else 1
def hit (T : AT) (p : Nat) (l : Option Nat) (e : Int32) (k : Nat) : Bool := tTh T k && (decide (k ≠ 0) && (decide (tPa T k = p) && (decide (nI k ≠ e) && alike (tLa T k) l)))
theorem hit_t {T : AT} {p : Nat} {l : Option Nat} {e : Int32} {k : Nat} : hit T p l e k = true ↔ tTh T k = true ∧ k ≠ 0 ∧ tPa T k = p ∧ nI k ≠ e ∧ alike (tLa T k) l = true := by
  simp only [hit, Bool.and_eq_true, decide_eq_true_eq]
def anyHit (T : AT) (p : Nat) (l : Option Nat) (e : Int32) : Bool := (List.range 42).any (hit T p l e)
theorem anyHit_t {T : AT} {p : Nat} {l : Option Nat} {e : Int32} {k : Nat} (hk : k < 42) (h : hit T p l e k = true) : anyHit T p l e = true := List.any_eq_true.mpr ⟨k, List.mem_range.mpr hk, h⟩
theorem anyHit_f {T : AT} {p : Nat} {l : Option Nat} {e : Int32} (h : ∀ k, k < 42 → hit T p l e k = false) : anyHit T p l e = false := by
  cases hb : anyHit T p l e
  · rfl
  · obtain ⟨k, hk, hk2⟩ := List.any_eq_true.mp hb
    rw [h k (List.mem_range.mp hk)] at hk2
    exact absurd hk2 (by decide)
theorem anyHit_no {T : AT} {p : Nat} {l : Option Nat} {e : Int32} (h : anyHit T p l e = false) {k : Nat} (hk : k < 42) : hit T p l e k = false := by
  cases hb : hit T p l e k
  · rfl
  · rw [anyHit_t hk hb] at h
    exact absurd h (by decide)
def hang (T : AT) (x p : Nat) : AT := sLa (sPa T x (hom T p)) x (if anyHit T (hom T p) (tLa T x) (nI x) = true then none else tLa T x)
def bel (T : AT) (p x : Nat) : Bool := (List.range 42).any (fun n => decide (pw (tPa T) n p = x))
def stepA (T : AT) (x p : Nat) (l : Option Nat) (i : Nat) : AT := hang (sIt (sLa (sTh T x true) x l) x i) x p
def stepS (AL : Nat → Nat) (T : AT) (x w : Nat) (v : Option Nat) : AT := if tTh T x = true ∧ (AL (tIt T x)).testBit w = true then sVa T (4 * x + w) v else T
def stepM (T : AT) (x p : Nat) (l : Option Nat) : AT := if tTh T x = true ∧ ¬ (tTh T p = true ∧ bel T p x = true) then hang (sLa T x l) x p else T
def rehang (x : Nat) (k : Nat) (U : AT) : AT := if tTh U k = true ∧ k ≠ 0 ∧ tPa U k = x then hang U k 1 else U
def stepD (T : AT) (x : Nat) : AT := if tTh T x = true then fr (rehang x) (sTh T x false) 42 else T
/-- what holds of every tree -/
def W0 (T : AT) : Prop := tTh T 0 = true ∧ tTh T 1 = true ∧ tPa T 0 = 0 ∧ tPa T 1 = 0 ∧ tLa T 0 = none
def W1 (T : AT) : Prop := ∀ v, v < 42 → tPa T v < 42
def W2 (T : AT) : Prop := ∀ v, v < 42 → ∃ n, pw (tPa T) n v = 0
def W3 (T : AT) : Prop := ∀ v k, tLa T v = some k → k < 100
def W4 (T : AT) : Prop := ∀ v, tIt T v < 3
def W5 (T : AT) : Prop := ∀ v k, tVa T v = some k → k < 10
def W6 (T : AT) : Prop := ∀ u v, u < 42 → v < 42 → u ≠ v → u ≠ 0 → v ≠ 0 → tTh T u = true → tTh T v = true → tPa T u = tPa T v → alike (tLa T u) (tLa T v) = false
def WF (T : AT) : Prop := W0 T ∧ W1 T ∧ W2 T ∧ W3 T ∧ W4 T ∧ W5 T ∧ W6 T
def CLO (T : AT) (x : Option Nat) : Prop := ∀ v, v < 42 → tTh T v = true → tTh T (tPa T v) = true ∨ x = some (tPa T v)
theorem paI_eq {T : AT} {j p : Nat} (hp : p < 42) (hj : tPa T j < 42) : (paI T j = nI p) ↔ (tTh T j = true ∧ j ≠ 0 ∧ tPa T j = p) := by
  unfold paI
  by_cases h : tTh T j = true ∧ j ≠ 0
  · rw [if_pos h, nI_eq (by omega) (by omega)]
    exact ⟨fun q => ⟨h.1, h.2, q⟩, fun q => q.2.2⟩
  · rw [if_neg h]
    exact ⟨fun q => absurd q (nI_nn' (by omega)), fun q => absurd ⟨q.1, q.2.1⟩ h⟩
/-- the class's tree, and the model's -/
def E2 (S : St) (T : AT) : Prop := ∀ k, k < 42 → S 2 k = bI (tTh T k)
def E3 (S : St) (T : AT) (e : Int32) : Prop := ∀ k, k < 42 → nI k ≠ e → S 3 k = paI T k
def E4 (S : St) (T : AT) : Prop := ∀ k, k < 42 → S 4 k = oI (tLa T k)
def E5 (S : St) (T : AT) : Prop := ∀ k, k < 42 → S 5 k = nI (tIt T k)
def E6 (S : St) (T : AT) : Prop := ∀ k, k < 168 → S 6 k = oI (tVa T k)
def RE (S : St) (T : AT) : Prop := E2 S T ∧ E3 S T (-1) ∧ E4 S T ∧ E5 S T ∧ E6 S T
theorem E3.all {S : St} {T : AT} (h : E3 S T (-1)) (e : Int32) : E3 S T e := fun k hk _ => h k hk (nI_nn (by omega))
theorem bnd_la {T : AT} (h : W3 T) (v : Nat) : ∀ x, tLa T v = some x → x < 100 := h v
theorem has_ok {S : St} {T : AT} {k : Nat} (h2 : E2 S T) (hk : k < 42) : X4_has S (nI k) = some (bI (tTh T k)) := by
  unfold X4_has X4_has_b23 X4_has_b24
  rw [if_neg (nI_pos (by omega)), if_neg (ge42 hk), if_pos (in42 hk), cl42 hk, h2 k hk]
  cases tTh T k <;> rfl
theorem cwl_ok {S : St} {T : AT} {p : Nat} {l : Option Nat} {e : Int32} (hp : p < 42) (h3 : E3 S T e) (h4 : E4 S T) (w1 : W1 T) (w3 : W3 T) (hl : ∀ x, l = some x → x < 100) : (∃ k, k < 42 ∧ hit T p l e k = true ∧ X4_childWithLabelLike S (nI p) (oI l) e = some (nI k)) ∨ ((∀ k, k < 42 → hit T p l e k = false) ∧ X4_childWithLabelLike S (nI p) (oI l) e = some (-1)) := by
  have key := wl_find (f := fun a' : (Int32 × Int32 × Int32 × Int32) => X4_childWithLabelLike_H3 S a'.1 a'.2.1 a'.2.2.1 a'.2.2.2) (N := 42) (fun j => (nI p, oI l, e, nI j)) (hit T p l e) (fun j => nI j) (r := -1) (by decide) (fun j hj => ?_) ?_
  · rcases key with ⟨k, hk, hP, _, h⟩ | ⟨hn, h⟩
    · exact .inl ⟨k, hk, hP, h⟩
    · exact .inr ⟨hn, h⟩
  · show X4_childWithLabelLike_H3 S (nI p) (oI l) e (nI j) = _
    unfold X4_childWithLabelLike_H3 X4_childWithLabelLike_b44 X4_childWithLabelLike_b41
    rw [if_neg (ge42 hj), if_pos (in42 hj), cl42 hj]
    by_cases he : nI j = e
    · have hf : ¬ hit T p l e j = true := fun q => (hit_t.mp q).2.2.2.1 he
      rw [if_neg hf]
      by_cases hs : S 3 j = nI p
      · rw [if_pos hs, if_pos he, ← nI_succ]
      · rw [if_neg hs, ← nI_succ]
    · rw [h3 j hj he]
      by_cases hq : paI T j = nI p
      · rw [if_pos hq, if_neg he, if_pos (in42 hj), h4 j hj, areLike_ok (w3 j) hl, bs]
        have hq' := (paI_eq hp (w1 j hj)).mp hq
        cases ha : alike (tLa T j) l
        · rw [if_pos bI_f, if_neg (fun q => by rw [(hit_t.mp q).2.2.2.2] at ha; exact absurd ha (by decide)), ← nI_succ]
        · rw [if_neg (by rw [bI_t]; decide), if_pos (hit_t.mpr ⟨hq'.1, hq'.2.1, hq'.2.2, he, ha⟩)]
          rfl
      · rw [if_neg hq, if_neg (fun q => hq ((paI_eq hp (w1 j hj)).mpr ⟨(hit_t.mp q).1, (hit_t.mp q).2.1, (hit_t.mp q).2.2.1⟩)), ← nI_succ]
  · show X4_childWithLabelLike_H3 S (nI p) (oI l) e (nI 42) = _
    unfold X4_childWithLabelLike_H3
    rw [if_pos le42]
    rfl
theorem paM_eq {T : AT} {j p : Nat} (hp : p < 42) (hj : tPa T j < 42) : (paM T j = nI p) ↔ (j ≠ 0 ∧ tPa T j = p) := by
  unfold paM
  by_cases h : j = 0
  · rw [if_pos h]
    exact ⟨fun q => absurd q (nI_nn' (by omega)), fun q => absurd h q.1⟩
  · rw [if_neg h, nI_eq (by omega) (by omega)]
    exact ⟨fun q => ⟨h, q⟩, fun q => q.2⟩
def fAcc (T : AT) (p : Nat) (l : Option Nat) (e : Int32) : Nat → Int32 := fr (fun k a => if hit T p l e k = true then nI k else a) (-1)
theorem fAcc_sp {T : AT} {p : Nat} {l : Option Nat} {e : Int32} : ∀ n, (∃ k, k < n ∧ hit T p l e k = true ∧ fAcc T p l e n = nI k) ∨ ((∀ k, k < n → hit T p l e k = false) ∧ fAcc T p l e n = -1) := by
  intro n
  induction n with
  | zero => exact .inr ⟨fun k hk => absurd hk (Nat.not_lt_zero k), rfl⟩
  | succ n ih =>
    show (∃ k, k < n + 1 ∧ hit T p l e k = true ∧ (if hit T p l e n = true then nI n else fAcc T p l e n) = nI k) ∨ ((∀ k, k < n + 1 → hit T p l e k = false) ∧ (if hit T p l e n = true then nI n else fAcc T p l e n) = -1)
    by_cases h : hit T p l e n = true
    · exact .inl ⟨n, Nat.lt_succ_self n, h, if_pos h⟩
    · rw [if_neg h]
      rcases ih with ⟨k, hk, h1, h2⟩ | ⟨h1, h2⟩
      · exact .inl ⟨k, Nat.lt_succ_of_lt hk, h1, h2⟩
      · refine .inr ⟨fun k hk => ?_, h2⟩
        rcases Nat.lt_or_ge k n with q | q
        · exact h1 k q
        · have : k = n := by omega
          rw [this]
          exact Bool.not_eq_true _ ▸ h
