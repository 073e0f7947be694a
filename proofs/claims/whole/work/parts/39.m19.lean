/-! PURE 19: areAlike of the model -/
def tld (T : AT) (k a : Nat) : Int32 := if tTh T k = true then (if a = 0 then paM T k else if a = 1 then oI (tLa T k) else if a = 2 then nI (tIt T k) else oI (tVa T (4 * k + a - 3))) else -9
theorem tld0 {T : AT} {k : Nat} (h : tTh T k = true) : tld T k 0 = paM T k := by
  unfold tld
  rw [if_pos h, if_pos rfl]
theorem tld1 {T : AT} {k : Nat} (h : tTh T k = true) : tld T k 1 = oI (tLa T k) := by
  unfold tld
  rw [if_pos h, if_neg (by decide), if_pos rfl]
theorem tld2 {T : AT} {k : Nat} (h : tTh T k = true) : tld T k 2 = nI (tIt T k) := by
  unfold tld
  rw [if_pos h, if_neg (by decide), if_neg (by decide), if_pos rfl]
theorem tld3 {T : AT} {k : Nat} (h : tTh T k = true) (v : Nat) : tld T k (v + 3) = oI (tVa T (4 * k + v)) := by
  unfold tld
  rw [if_pos h, if_neg (by omega), if_neg (by omega), if_neg (by omega), show 4 * k + (v + 3) - 3 = 4 * k + v by omega]
theorem tld9 {T : AT} {k a : Nat} (h : tTh T k = false) : tld T k a = -9 := by
  unfold tld
  rw [if_neg (by rw [h]; decide)]
theorem told_ok {M : St} {T : AT} {k a : Nat} (h : RM M T) (hk : k < 42) (ha : a < 7) : X6_told M (nI k) (nI a) = some (tld T k a) := by
  unfold X6_told X6_told_b67 tld
  rw [if_pos (in42 hk), cl42 hk, h.1 k hk]
  cases ht : tTh T k
  · rw [if_pos bit0, if_neg (by decide)]
  · rw [if_neg bit1, if_pos rfl]
    by_cases h0 : a = 0
    · rw [if_pos (show nI a = 0 by rw [h0]; rfl), if_pos h0, if_pos (in42 hk), h.2.1 k hk (nI_nn (by omega)) ht]
    · rw [if_neg (nI_ne0 (by omega) (by omega)), if_neg h0]
      by_cases h1 : a = 1
      · rw [if_pos (show nI a = 1 by rw [h1]; rfl), if_pos h1, if_pos (in42 hk), h.2.2.1 k hk]
      · rw [if_neg (show ¬ nI a = 1 from fun q => h1 ((nI_eq (b := 1) (by omega) (by decide)).mp q)), if_neg h1]
        by_cases h2 : a = 2
        · rw [if_pos (show nI a = 2 by rw [h2]; rfl), if_pos h2, if_pos (in42 hk), h.2.2.2.1 k hk]
        · have e3 : 4 * nI k + nI a - 3 = nI (4 * k + a - 3) := by
            rw [ix4']
            exact pk_sub (a := 4 * k + a) (b := 3) (by omega)
          rw [if_neg (show ¬ nI a = 2 from fun q => h2 ((nI_eq (b := 2) (by omega) (by decide)).mp q)), if_neg h2, e3, if_pos (in168 (by omega)), clN (by omega), h.2.2.2.2 _ (by omega)]
def acq (T U : AT) : Nat → Bool := fr (fun i a => a && decide (tld T (i / 7) (i % 7) = tld U (i / 7) (i % 7))) true
theorem acq_t {T U : AT} : ∀ n, acq T U n = true ↔ ∀ i, i < n → tld T (i / 7) (i % 7) = tld U (i / 7) (i % 7) := by
  intro n
  induction n with
  | zero => exact ⟨fun _ j hj => absurd hj (Nat.not_lt_zero j), fun _ => rfl⟩
  | succ n ih =>
    show (acq T U n && decide (tld T (n / 7) (n % 7) = tld U (n / 7) (n % 7))) = true ↔ _
    rw [Bool.and_eq_true, ih, decide_eq_true_eq]
    refine ⟨fun q j hj => ?_, fun q => ⟨fun j hj => q j (by omega), q n (by omega)⟩⟩
    rcases Nat.lt_or_ge j n with z | z
    · exact q.1 j z
    · rw [show j = n by omega]; exact q.2
theorem paM_ne9 {T : AT} {k : Nat} (h : tPa T k < 42) : ¬ paM T k = -9 := by
  unfold paM
  by_cases h0 : k = 0
  · rw [if_pos h0]; decide
  · rw [if_neg h0]
    exact fun q => nI_pos (n := tPa T k) (by omega) (by rw [q]; decide)
theorem acq_eqk {T U : AT} {Z : Nat} (hZ : Z = 294) (w : WF T) (u : WF U) : acq T U Z = true ↔ ∀ k, k < 42 → EQK T U k := by
  rw [acq_t]
  refine ⟨fun h k hk => ?_, fun h i hi => ?_⟩
  · have hh : ∀ a, a < 7 → tld T k a = tld U k a := fun a ha => by
      have := h (7 * k + a) (by omega)
      rw [show (7 * k + a) / 7 = k by omega, show (7 * k + a) % 7 = a by omega] at this
      exact this
    have h0 := hh 0 (by decide)
    cases ht : tTh T k
    · cases hu : tTh U k
      · exact ⟨ht.trans hu.symm, fun z => by rw [ht] at z; exact absurd z (by decide)⟩
      · rw [tld9 ht, tld0 hu] at h0
        exact absurd h0.symm (paM_ne9 (u.2.1 k hk))
    · cases hu : tTh U k
      · rw [tld0 ht, tld9 hu] at h0
        exact absurd h0 (paM_ne9 (w.2.1 k hk))
      · rw [tld0 ht, tld0 hu] at h0
        refine ⟨ht.trans hu.symm, fun _ => ⟨fun v hv => ?_, h0, ?_, ?_⟩⟩
        · have h3 := hh (v + 3) (by omega)
          rw [tld3 ht, tld3 hu] at h3
          exact (oI_q (n := 10) (by decide) (w.2.2.2.2.2.1 _) (u.2.2.2.2.2.1 _)).mp h3
        · have h1 := hh 1 (by decide)
          rw [tld1 ht, tld1 hu] at h1
          exact (oI_q (n := 100) (by decide) (w.2.2.2.1 _) (u.2.2.2.1 _)).mp h1
        · have h2 := hh 2 (by decide)
          rw [tld2 ht, tld2 hu] at h2
          have a1 := w.2.2.2.2.1 k
          have a2 := u.2.2.2.2.1 k
          exact (nI_eq (by omega) (by omega)).mp h2
  · obtain ⟨a, b⟩ := h (i / 7) (by omega)
    unfold tld
    rw [← a]
    cases ht : tTh T (i / 7)
    · rw [if_neg (by decide), if_neg (by decide)]
    · obtain ⟨b1, b2, b3, b4⟩ := b ht
      rw [if_pos rfl, if_pos rfl, b2, b3, b4]
      by_cases h0 : i % 7 = 0
      · rw [if_pos h0, if_pos h0]
      · rw [if_neg h0, if_neg h0]
        by_cases h1 : i % 7 = 1
        · rw [if_pos h1, if_pos h1]
        · rw [if_neg h1, if_neg h1]
          by_cases h2 : i % 7 = 2
          · rw [if_pos h2, if_pos h2]
          · rw [if_neg h2, if_neg h2]
            have := b1 (i % 7 - 3) (by omega)
            rw [show 4 * (i / 7) + i % 7 - 3 = 4 * (i / 7) + (i % 7 - 3) by omega, this]
theorem ge294 {j : Nat} (h : j < 294) : ¬ (294 : Int32) ≤ nI j := nI_ge (b := 294) h (by decide)
theorem le294 : (294 : Int32) ≤ nI 294 := nI_le (Nat.le_refl 294) (by decide)
theorem in294 {j : Nat} (h : j < 294) : inB (nI j) 294 = true := inB_nI h (by decide)
theorem alikeL52 {M : St} {T U : AT} {Z : Nat} (hZ : Z = 294) (h : RM M U) (g : ∀ i, i < 294 → M 23 i = tld T (i / 7) (i % 7)) : X6_areAlike_L52 M 1 0 = some (bI (acq T U Z), M) := by
  unfold X6_areAlike_L52
  refine wl_for0 (f := fun a' : (St × Int32 × Int32) => X6_areAlike_H52 a'.1 a'.2.1 a'.2.2) (N := Z) (fun j => (M, bI (acq T U j), nI j)) (fun j hj => ?_) ?_ (by omega)
  · show X6_areAlike_H52 M (bI (acq T U j)) (nI j) = some (.inl (M, bI (acq T U j && decide (tld T (j / 7) (j % 7) = tld U (j / 7) (j % 7))), nI (j + 1)))
    have ed : nI j / 7 = nI (j / 7) := pk_div (a := j) (d := 7) (by omega) (by decide) (by decide)
    have em : nI j - nI (j / 7) * 7 = nI (j % 7) := by rw [← ed]; exact pk_rem (a := j) (d := 7) (by omega) (by decide) (by decide)
    unfold X6_areAlike_H52 X6_areAlike_b86
    rw [if_neg (ge294 (show j < 294 by omega)), if_pos (in294 (show j < 294 by omega)), ed, em, told_ok h (by omega) (by omega), bs, clN (by omega), g j (by omega), ← nI_succ, bI_and]
    by_cases q : tld T (j / 7) (j % 7) = tld U (j / 7) (j % 7)
    · rw [if_pos q, decide_eq_true q, Bool.and_true]
    · rw [if_neg q, decide_eq_false q, Bool.and_false]
      cases acq T U j <;> rfl
  · have e : ∀ b : Bool, X6_areAlike_H52 M (bI b) (nI Z) = some (.inr (bI b, M)) := fun b => by
      rw [hZ]
      unfold X6_areAlike_H52 X6_areAlike_b94
      rw [if_pos le294, if_pos (bI_and _)]
      rfl
    exact e (acq T U Z)
theorem api_areAlike {S M : St} (h : INV 0 S M) : ∃ v M', X5_areAlike S = some v ∧ X6_areAlike M = some (v, M') ∧ INV 0 S M' ∧ M' 0 25 = nI 0 := by
  obtain ⟨Z, hZ⟩ : ∃ Z : Nat, Z = 294 := ⟨294, rfl⟩
  have h0 := h.qm (qm25 M 0)
  have hh := h0
  obtain ⟨n, lg, tm, mk, bt, N, A, L, L', F, hI⟩ := hh
  generalize hM0 : up M 0 (upd (M 0) 25 0) = M0 at hI h0
  obtain ⟨⟨a, _⟩, _, c, ⟨_, _, d3, d4, _⟩, ⟨_, _, q3, q4, _⟩, ⟨_, f2⟩, _, _⟩ := hI
  obtain ⟨w, _, _⟩ := repl_WF (A := A) (d3.wkl a)
  obtain ⟨u, _, _⟩ := repl_WF (A := A) (q3.wkl a)
  have hv : X5_areAlike S = some (bI (acq (repl A lg L) (repl A lg L') Z)) := by
    unfold X5_areAlike
    rcases sameTrees_ok w u d4 q4 with ⟨e, z⟩ | ⟨e, k, hk, z⟩
    · rw [e, bs, (acq_eqk hZ w u).mpr z]
      rfl
    · have : acq (repl A lg L) (repl A lg L') Z = false := by
        cases hb : acq (repl A lg L) (repl A lg L') Z
        · rfl
        · exact absurd ((acq_eqk hZ w u).mp hb k hk) z
      rw [e, bs, this]
      rfl
  obtain ⟨M1, e1, r1, r2⟩ := grows_ok (m := 0) c a (by decide) d3 f2
  have key : ∃ r : Int32 × St, X6_areAlike_L12 M1 0 = some r ∧ (r.1 = bI (acq (repl A lg L) (repl A lg L') Z) ∧ (∀ k, 1 ≤ k → k < 17 → r.2 k = M1 k) ∧ r.2 0 = M1 0) := by
    unfold X6_areAlike_L12
    refine wl_inv (f := fun a' : (St × Int32) => X6_areAlike_H12 a'.1 a'.2) (N := 294) (fun j a => ∃ V : St, a = (V, nI j) ∧ (∀ k, k ≠ 23 → V k = M1 k) ∧ ∀ i, i < j → V 23 i = tld (repl A lg L) (i / 7) (i % 7)) (by decide) ?_ ?_ ⟨M1, rfl, fun _ _ => rfl, fun i hi => absurd hi (Nat.not_lt_zero i)⟩
    · rintro j b hj ⟨V, rfl, vf, vg⟩
      have ed : nI j / 7 = nI (j / 7) := pk_div (a := j) (d := 7) (by omega) (by decide) (by decide)
      have em : nI j - nI (j / 7) * 7 = nI (j % 7) := by rw [← ed]; exact pk_rem (a := j) (d := 7) (by omega) (by decide) (by decide)
      show ∃ a', X6_areAlike_H12 V (nI j) = some (.inl a') ∧ _
      unfold X6_areAlike_H12 X6_areAlike_b37
      rw [if_neg (ge294 hj), ed, em, told_ok (M := V) (T := repl A lg L) (r1.fr (fun k x y => vf k (by omega))) (by omega) (by omega), bs, if_pos (in294 hj), clN (by omega), ← nI_succ]
      refine ⟨_, rfl, _, rfl, fun k hk => (up_n hk).trans (vf k hk), fun i hi => ?_⟩
      rw [up_s]
      by_cases q : i = j
      · rw [q, upd_s]
      · rw [upd_n q]; exact vg i (by omega)
    · rintro b ⟨V, rfl, vf, vg⟩
      show ∃ r, X6_areAlike_H12 V (nI 294) = some (.inr r) ∧ _
      unfold X6_areAlike_H12 X6_areAlike_b43 X6_areAlike_b48
      rw [if_pos le294]
      have cV : LOGM V n lg tm mk bt := (c.fm r2).fr (by rw [vf 0 (by decide)]) (fun k x y => vf k (by omega))
      obtain ⟨M2, e2, s1, s2⟩ := grows_ok (m := 1) cV a (by decide) q3 (f2.fr ((vf 1 (by decide)).trans (r2 1 (by omega))) ((vf 2 (by decide)).trans (r2 2 (by omega))))
      have e2' : X6_grows V 1 = some M2 := e2
      rw [e2', bs, alikeL52 hZ s1 (fun i hi => by rw [s2 23 (by omega)]; exact vg i hi)]
      exact ⟨_, rfl, rfl, fun k x y => (s2 k (by omega)).trans (vf k (by omega)), (s2 0 (by omega)).trans (vf 0 (by decide))⟩
  obtain ⟨⟨v, M3⟩, k1, k2, k3, k4⟩ := key
  have k2' : v = bI (acq (repl A lg L) (repl A lg L') Z) := k2
  have k4' : M3 0 = M1 0 := k4
  subst k2'
  refine ⟨_, M3, hv, ?_, h0.qm ⟨fun k x y => (k3 k x y).trans (r2 k (by omega)), fun j _ => by rw [k4', r2 0 (by omega)]⟩, ?_⟩
  · unfold X6_areAlike X6_areAlike_b5
    have e1' : X6_grows M0 0 = some M1 := e1
    rw [hM0, e1', bs]
    exact k1
  · rw [k4', r2 0 (by omega), ← hM0, up_s, upd_s]
    rfl
