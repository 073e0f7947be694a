/-! PURE 4: trees stay trees -/
theorem alike_nl (b : Option Nat) : alike none b = false := rfl
theorem alike_nr (a : Option Nat) : alike a none = false := by cases a <;> rfl
theorem alike_comm (a b : Option Nat) : alike a b = alike b a := by
  cases a with
  | none => rw [alike_nr]; rfl
  | some i =>
    cases b with
    | none => rfl
    | some j =>
      show (i % 50 == j % 50) = (j % 50 == i % 50)
      by_cases h : i % 50 = j % 50
      · rw [h]
      · rw [beq_false_of_ne h, beq_false_of_ne (fun q => h q.symm)]
def W6e (T : AT) (e : Nat) : Prop := ∀ u v, u < 42 → v < 42 → u ≠ v → u ≠ 0 → v ≠ 0 → u ≠ e → v ≠ e → tTh T u = true → tTh T v = true → tPa T u = tPa T v → alike (tLa T u) (tLa T v) = false
def CLOe (T : AT) (x : Option Nat) (e : Nat) : Prop := ∀ v, v < 42 → v ≠ e → tTh T v = true → tTh T (tPa T v) = true ∨ x = some (tPa T v)
theorem W6.e {T : AT} (h : W6 T) (e : Nat) : W6e T e := fun u v a b c d f _ _ g i j => h u v a b c d f g i j
theorem CLO.e {T : AT} {x : Option Nat} (h : CLO T x) (e : Nat) : CLOe T x e := fun v a _ b => h v a b
theorem pw_fu {f : Nat → Nat} {x q : Nat} (hq : ∀ n, pw f n q ≠ x) : ∀ n, pw (fu f x q) n q = pw f n q := by
  intro n
  induction n with
  | zero => rfl
  | succ n ih => rw [pw_s, pw_s, ih, fu_n (hq n)]
theorem pw_re {f : Nat → Nat} {x q : Nat} (hq : ∀ n, pw f n q ≠ x) (h0 : ∃ n, pw f n q = 0) : ∀ n v, pw f n v = 0 → ∃ m, pw (fu f x q) m v = 0 := by
  intro n
  induction n with
  | zero => intro v h; exact ⟨0, h⟩
  | succ n ih =>
    intro v h
    by_cases hv : v = x
    · obtain ⟨m, hm⟩ := h0
      refine ⟨m + 1, ?_⟩
      show pw (fu f x q) m (fu f x q v) = 0
      rw [hv, fu_s, pw_fu hq]
      exact hm
    · obtain ⟨m, hm⟩ := ih (f v) h
      refine ⟨m + 1, ?_⟩
      show pw (fu f x q) m (fu f x q v) = 0
      rw [fu_n hv]
      exact hm
theorem hom_th {T : AT} (w0 : W0 T) (p : Nat) : tTh T (hom T p) = true := by
  unfold hom
  by_cases h : tTh T p = true
  · rw [if_pos h]; exact h
  · rw [if_neg h]; exact w0.2.1
theorem hang_WF {T : AT} {x p : Nat} (hx2 : 2 ≤ x) (hx : x < 42) (hp : p < 42) (w0 : W0 T) (w1 : W1 T) (w2 : W2 T) (w3 : W3 T) (w4 : W4 T) (w5 : W5 T) (w6 : W6e T x) (hq : ∀ n, pw (tPa T) n (hom T p) ≠ x) : WF (hang T x p) := by
  refine ⟨⟨w0.1, w0.2.1, ?_, ?_, ?_⟩, fun v hv => ?_, fun v hv => ?_, fun v k h => ?_, w4, w5, ?_⟩
  · rw [tPa_hang, fu_n (by omega)]; exact w0.2.2.1
  · rw [tPa_hang, fu_n (by omega)]; exact w0.2.2.2.1
  · rw [tLa_hang, fu_n (by omega)]; exact w0.2.2.2.2
  · rw [tPa_hang]
    by_cases h : v = x
    · rw [h, fu_s]; exact hom_lt hp
    · rw [fu_n h]; exact w1 v hv
  · obtain ⟨n, hn⟩ := w2 v hv
    exact pw_re hq (w2 _ (hom_lt hp)) n v hn
  · rw [tLa_hang] at h
    by_cases hv : v = x
    · rw [hv, fu_s] at h
      split at h
      · exact absurd h (fun z => nomatch z)
      · exact w3 x k h
    · rw [fu_n hv] at h
      exact w3 v k h
  · have one : ∀ v, v < 42 → v ≠ x → v ≠ 0 → tTh T v = true → hom T p = tPa T v → alike (if anyHit T (hom T p) (tLa T x) (nI x) = true then none else tLa T x) (tLa T v) = false := by
      intro v hv hvx hv0 ht hpv
      cases ha : anyHit T (hom T p) (tLa T x) (nI x)
      · rw [if_neg (by decide), alike_comm]
        have h := anyHit_no ha hv
        cases hb : alike (tLa T v) (tLa T x)
        · rfl
        · rw [hit_t.mpr ⟨ht, hv0, hpv.symm, fun q => hvx ((nI_eq (by omega) (by omega)).mp q), hb⟩] at h
          exact absurd h (by decide)
      · rw [if_pos rfl]
        rfl
    intro u v hu hv huv hu0 hv0 htu htv hpp
    rw [tTh_hang] at htu htv
    rw [tPa_hang] at hpp
    rw [tLa_hang]
    by_cases h : u = x
    · have hvx : v ≠ x := fun q => huv (h.trans q.symm)
      rw [h, fu_s, fu_n hvx] at hpp
      rw [h, fu_s, fu_n hvx]
      exact one v hv hvx hv0 htv hpp
    · by_cases h' : v = x
      · rw [h', fu_s, fu_n h] at hpp
        rw [h', fu_s, fu_n h, alike_comm]
        exact one u hu h hu0 htu hpp.symm
      · rw [fu_n h, fu_n h'] at hpp
        rw [fu_n h, fu_n h']
        exact w6 u v hu hv huv hu0 hv0 h h' htu htv hpp
theorem hang_CLO {T : AT} {x p : Nat} {e : Option Nat} (w0 : W0 T) (hc : CLOe T e x) : CLO (hang T x p) e := by
  intro v hv ht
  rw [tTh_hang] at ht ⊢
  rw [tPa_hang]
  by_cases h : v = x
  · rw [h, fu_s]; exact .inl (hom_th w0 p)
  · rw [fu_n h]; exact hc v hv h ht
theorem pw_1 {f : Nat → Nat} (h0 : f 0 = 0) (h1 : f 1 = 0) : ∀ n, pw f n 1 = 1 ∨ pw f n 1 = 0
  | 0 => .inl rfl
  | n + 1 => .inr (pw_stay h0 (n := 1) (by show f 1 = 0; exact h1) (by omega))
theorem pw_1ne {T : AT} (w0 : W0 T) {x : Nat} (hx2 : 2 ≤ x) (n : Nat) : pw (tPa T) n 1 ≠ x := fun q => by
  rcases pw_1 w0.2.2.1 w0.2.2.2.1 n with h | h <;> omega
theorem stepA_WF {T : AT} {x p l i : Nat} (hx2 : 2 ≤ x) (hx : x < 42) (hp : p < 42) (hpx : p ≠ x) (hl : l < 100) (hi : i < 3) (hth : tTh T x = false) (w : WF T) (hc : CLO T none) : WF (stepA T x p (some l) i) ∧ CLO (stepA T x p (some l) i) none := by
  obtain ⟨w0, w1, w2, w3, w4, w5, w6⟩ := w
  have v0 : W0 (sIt (sLa (sTh T x true) x (some l)) x i) := by
    refine ⟨?_, ?_, w0.2.2.1, w0.2.2.2.1, ?_⟩
    · show fu (tTh T) x true 0 = true
      rw [fu_n (by omega)]; exact w0.1
    · show fu (tTh T) x true 1 = true
      rw [fu_n (by omega)]; exact w0.2.1
    · show fu (tLa T) x (some l) 0 = none
      rw [fu_n (by omega)]; exact w0.2.2.2.2
  have hq : ∀ n, pw (tPa T) n (hom (sIt (sLa (sTh T x true) x (some l)) x i) p) ≠ x := by
    intro n
    unfold hom
    by_cases h : tTh (sIt (sLa (sTh T x true) x (some l)) x i) p = true
    · rw [if_pos h]
      have h' : fu (tTh T) x true p = true := h
      rw [fu_n hpx] at h'
      intro q
      have := pw_th hc w1 hp h' n
      rw [q, hth] at this
      exact absurd this (by decide)
    · rw [if_neg h]
      exact pw_1ne w0 hx2 n
  refine ⟨hang_WF hx2 hx hp v0 w1 w2 (fun v k h => ?_) (fun v => ?_) w5 ?_ hq, hang_CLO v0 ?_⟩
  · have h' : fu (tLa T) x (some l) v = some k := h
    by_cases hv : v = x
    · rw [hv, fu_s] at h'
      rw [← Option.some.inj h']; exact hl
    · rw [fu_n hv] at h'
      exact w3 v k h'
  · show fu (tIt T) x i v < 3
    by_cases hv : v = x
    · rw [hv, fu_s]; exact hi
    · rw [fu_n hv]; exact w4 v
  · intro u v a b c d f g h i' j k
    have i1 : fu (tTh T) x true u = true := i'
    have j1 : fu (tTh T) x true v = true := j
    rw [fu_n g] at i1
    rw [fu_n h] at j1
    show alike (fu (tLa T) x (some l) u) (fu (tLa T) x (some l) v) = false
    rw [fu_n g, fu_n h]
    exact w6 u v a b c d f i1 j1 k
  · intro v a b c
    have c' : fu (tTh T) x true v = true := c
    rw [fu_n b] at c'
    rcases hc v a c' with h | h
    · left
      show fu (tTh T) x true (tPa T v) = true
      by_cases hv : tPa T v = x
      · rw [hv, fu_s]
      · rw [fu_n hv]; exact h
    · exact nomatch h
theorem sLa_WF {T : AT} {x : Nat} {l : Option Nat} (hl : ∀ k, l = some k → k < 100) (hx2 : 2 ≤ x) (w : WF T) : W0 (sLa T x l) ∧ W3 (sLa T x l) ∧ W6e (sLa T x l) x := by
  obtain ⟨w0, w1, w2, w3, w4, w5, w6⟩ := w
  refine ⟨⟨w0.1, w0.2.1, w0.2.2.1, w0.2.2.2.1, ?_⟩, fun v k h => ?_, ?_⟩
  · show fu (tLa T) x l 0 = none
    rw [fu_n (by omega)]; exact w0.2.2.2.2
  · have h' : fu (tLa T) x l v = some k := h
    by_cases hv : v = x
    · rw [hv, fu_s] at h'
      exact hl k h'
    · rw [fu_n hv] at h'
      exact w3 v k h'
  · intro u v a b c d f g h i j k
    show alike (fu (tLa T) x l u) (fu (tLa T) x l v) = false
    rw [fu_n g, fu_n h]
    exact w6 u v a b c d f i j k
theorem stepM_WF {T : AT} {x p l : Nat} (hx2 : 2 ≤ x) (hx : x < 42) (hp : p < 42) (hl : l < 100) (w : WF T) (hc : CLO T none) : WF (stepM T x p (some l)) ∧ CLO (stepM T x p (some l)) none := by
  unfold stepM
  by_cases h : tTh T x = true ∧ ¬ (tTh T p = true ∧ bel T p x = true)
  · rw [if_pos h]
    obtain ⟨v0, v3, v6⟩ := sLa_WF (l := some l) (fun k q => by rw [← Option.some.inj q]; exact hl) hx2 w
    obtain ⟨w0, w1, w2, w3, w4, w5, w6⟩ := w
    refine ⟨hang_WF hx2 hx hp v0 w1 w2 v3 w4 w5 v6 (fun n => ?_), hang_CLO v0 (hc.e x)⟩
    show pw (tPa T) n (if tTh T p = true then p else 1) ≠ x
    by_cases ht : tTh T p = true
    · rw [if_pos ht]
      refine bel_all w0 w1 w2 hp (by omega) ?_ n
      cases hb : bel T p x
      · rfl
      · exact absurd ⟨ht, hb⟩ h.2
    · rw [if_neg ht]
      exact pw_1ne w0 hx2 n
  · rw [if_neg h]
    exact ⟨w, hc⟩
theorem stepS_WF {AL : Nat → Nat} {T : AT} {x w : Nat} {v : Option Nat} (hv : ∀ k, v = some k → k < 10) (wf : WF T) (hc : CLO T none) : WF (stepS AL T x w v) ∧ CLO (stepS AL T x w v) none := by
  unfold stepS
  split
  · refine ⟨⟨wf.1, wf.2.1, wf.2.2.1, wf.2.2.2.1, wf.2.2.2.2.1, fun u k h => ?_, wf.2.2.2.2.2.2⟩, hc⟩
    have h' : fu (tVa T) (4 * x + w) v u = some k := h
    by_cases hu : u = 4 * x + w
    · rw [hu, fu_s] at h'
      exact hv k h'
    · rw [fu_n hu] at h'
      exact wf.2.2.2.2.2.1 u k h'
  · exact ⟨wf, hc⟩
theorem hom1 {T : AT} (w0 : W0 T) : hom T 1 = 1 := if_pos w0.2.1
/-- while the children of a deleted entry get their new place -/
theorem rehang_inv {T : AT} {x : Nat} (hx2 : 2 ≤ x) (hx : x < 42) (wf : WF T) (hc : CLO T (some x)) (hth : tTh T x = false) : ∀ j, j ≤ 42 → WF (fr (rehang x) T j) ∧ CLO (fr (rehang x) T j) (some x) ∧ tTh (fr (rehang x) T j) = tTh T ∧ (∀ v, v < j → v ≠ 0 → tTh T v = true → tPa (fr (rehang x) T j) v ≠ x) ∧ tIt (fr (rehang x) T j) = tIt T ∧ tVa (fr (rehang x) T j) = tVa T := by
  intro j
  induction j with
  | zero => intro _; exact ⟨wf, hc, rfl, fun v hv => absurd hv (Nat.not_lt_zero v), rfl, rfl⟩
  | succ j ih =>
    intro hj
    obtain ⟨i1, i2, i3, i4, i5, i6⟩ := ih (by omega)
    show WF (rehang x j (fr (rehang x) T j)) ∧ CLO (rehang x j (fr (rehang x) T j)) (some x) ∧ tTh (rehang x j (fr (rehang x) T j)) = tTh T ∧ (∀ v, v < j + 1 → v ≠ 0 → tTh T v = true → tPa (rehang x j (fr (rehang x) T j)) v ≠ x) ∧ tIt (rehang x j (fr (rehang x) T j)) = tIt T ∧ tVa (rehang x j (fr (rehang x) T j)) = tVa T
    generalize fr (rehang x) T j = U at i1 i2 i3 i4 i5 i6
    unfold rehang
    by_cases h : tTh U j = true ∧ j ≠ 0 ∧ tPa U j = x
    · rw [if_pos h]
      obtain ⟨w0, w1, w2, w3, w4, w5, w6⟩ := i1
      have hj2 : 2 ≤ j := by
        rcases Nat.lt_or_ge j 2 with q | q
        · have : j = 1 := by omega
          rw [this, w0.2.2.2.1] at h
          omega
        · exact q
      refine ⟨hang_WF hj2 (by omega) (by decide) w0 w1 w2 w3 w4 w5 (W6.e w6 j) (fun n => by rw [hom1 w0]; exact pw_1ne w0 hj2 n), hang_CLO w0 (CLO.e i2 j), i3, fun v hv hv0 ht => ?_, i5, i6⟩
      rw [tPa_hang]
      by_cases hvj : v = j
      · rw [hvj, fu_s, hom1 w0]; omega
      · rw [fu_n hvj]; exact i4 v (by omega) hv0 ht
    · rw [if_neg h]
      refine ⟨i1, i2, i3, fun v hv hv0 ht => ?_, i5, i6⟩
      by_cases hvj : v = j
      · intro q
        rw [hvj] at q ht hv0
        exact h ⟨by rw [i3]; exact ht, hv0, q⟩
      · exact i4 v (by omega) hv0 ht
theorem del0 {T : AT} {x : Nat} (hx2 : 2 ≤ x) (wf : WF T) (hc : CLO T none) : WF (sTh T x false) ∧ CLO (sTh T x false) (some x) := by
  obtain ⟨w0, w1, w2, w3, w4, w5, w6⟩ := wf
  refine ⟨⟨⟨?_, ?_, w0.2.2⟩, w1, w2, w3, w4, w5, ?_⟩, ?_⟩
  · show fu (tTh T) x false 0 = true
    rw [fu_n (by omega)]; exact w0.1
  · show fu (tTh T) x false 1 = true
    rw [fu_n (by omega)]; exact w0.2.1
  · intro u v a b c d f g h i
    have g' : fu (tTh T) x false u = true := g
    have h' : fu (tTh T) x false v = true := h
    have nx : ∀ y, fu (tTh T) x false y = true → y ≠ x := fun y q r => by
      rw [r, fu_s] at q
      exact absurd q (by decide)
    rw [fu_n (nx u g')] at g'
    rw [fu_n (nx v h')] at h'
    exact w6 u v a b c d f g' h' i
  · intro v a b
    have b' : fu (tTh T) x false v = true := b
    have hvx : v ≠ x := fun r => by
      rw [r, fu_s] at b'
      exact absurd b' (by decide)
    rw [fu_n hvx] at b'
    by_cases h : tPa T v = x
    · right
      show some x = some (tPa T v)
      rw [h]
    · left
      show fu (tTh T) x false (tPa T v) = true
      rw [fu_n h]
      exact (hc v a b').elim id (fun q => nomatch q)
theorem stepD_WF {T : AT} {x : Nat} (hx2 : 2 ≤ x) (hx : x < 42) (wf : WF T) (hc : CLO T none) : WF (stepD T x) ∧ CLO (stepD T x) none := by
  unfold stepD
  by_cases h : tTh T x = true
  · rw [if_pos h]
    obtain ⟨a, b⟩ := del0 hx2 wf hc
    obtain ⟨i1, i2, i3, i4, _, _⟩ := rehang_inv hx2 hx a b fu_s 42 (Nat.le_refl 42)
    refine ⟨i1, fun v hv ht => ?_⟩
    rcases i2 v hv ht with q | q
    · exact .inl q
    · have q' := Option.some.inj q
      by_cases h0 : v = 0
      · rw [h0, i1.1.2.2.1] at q'
        omega
      · rw [i3] at ht
        exact absurd q'.symm (i4 v hv h0 ht)
  · rw [if_neg h]
    exact ⟨wf, hc⟩
