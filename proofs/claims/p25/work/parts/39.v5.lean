/-! CLASS 5: search -/
def rtQ (T : AT) (rg : Nat → Int32) (i : Nat) : Nat → Nat → Int32
  | 0, _ => 0
  | f + 1, p => if rg (42 * i + p) = -1 then (if p = 0 then 0 else rtQ T rg i f (tPa T p)) else rg (42 * i + p)
theorem right_end {S : St} {x1 z : Int32} : X3_rightThatCounts_H6 S x1 (-1) z = some (.inr 0) := by
  unfold X3_rightThatCounts_H6 X3_rightThatCounts_b58
  by_cases h : (42 : Int32) ≤ z
  · rw [if_pos h]
    rfl
  · rw [if_neg h, if_pos rfl]
    rfl
theorem right_loop {S : St} {T : AT} {rg : Nat → Int32} {i : Nat} (hi : i < 3) (hR : ∀ k, k < 126 → S 25 k = rg k) (h3 : E3 S T (-1)) (hc : CLO T none) (w1 : W1 T) : ∀ d p s fuel f, p < 42 → tTh T p = true → pw (tPa T) d p = 0 → (∀ j, j < d → pw (tPa T) j p ≠ 0) → s + d ≤ 41 → d + 1 < fuel → d < f → wloop (fun a' : (Int32 × Int32 × Int32) => X3_rightThatCounts_H6 S a'.1 a'.2.1 a'.2.2) fuel (nI i, nI p, nI s) = some (rtQ T rg i f p) := by
  have e : ∀ p s, p < 42 → s ≤ 41 → X3_rightThatCounts_H6 S (nI i) (nI p) (nI s) = if rg (42 * i + p) = -1 then some (.inl (nI i, paI T p, nI (s + 1))) else some (.inr (rg (42 * i + p))) := fun p s hp hs => by
    unfold X3_rightThatCounts_H6 X3_rightThatCounts_b41
    rw [if_neg (ge42 (by omega)), if_neg (nI_nn (by omega)), ix42, at_in (by omega) (by decide), bs, hR _ (by omega), parentAt_ok h3 hp, bs, nI_succ]
    by_cases q : rg (42 * i + p) = -1
    · rw [if_pos q, if_pos q]
    · rw [if_neg q, if_neg q]
      rfl
  intro d
  induction d with
  | zero =>
    intro p s fuel f hp ht h0 _ hs hfu hf
    obtain ⟨g, rfl⟩ : ∃ g, fuel = g + 1 + 1 := ⟨fuel - 2, by omega⟩
    obtain ⟨f', rfl⟩ : ∃ f', f = f' + 1 := ⟨f - 1, by omega⟩
    have hp0 : p = 0 := h0
    have e1 := e p s hp (by omega)
    unfold rtQ
    by_cases q : rg (42 * i + p) = -1
    · rw [if_pos q] at e1
      rw [if_pos q, if_pos hp0]
      have e2 : paI T p = -1 := if_neg (fun z => z.2 hp0)
      rw [e2] at e1
      exact (wl_inl (n := g + 1) e1).trans (wl_inr (n := g) right_end)
    · rw [if_neg q] at e1
      rw [if_neg q]
      exact wl_inr (n := g + 1) e1
  | succ d ih =>
    intro p s fuel f hp ht h0 hl hs hfu hf
    obtain ⟨g, rfl⟩ : ∃ g, fuel = g + 1 := ⟨fuel - 1, by omega⟩
    obtain ⟨f', rfl⟩ : ∃ f', f = f' + 1 := ⟨f - 1, by omega⟩
    have hp0 : p ≠ 0 := hl 0 (by omega)
    have e1 := e p s hp (by omega)
    unfold rtQ
    by_cases q : rg (42 * i + p) = -1
    · rw [if_pos q] at e1
      rw [if_pos q, if_neg hp0]
      have e2 : paI T p = nI (tPa T p) := if_pos ⟨ht, hp0⟩
      rw [e2] at e1
      have ht1 : tTh T (tPa T p) = true := by
        rcases hc p hp ht with z | z
        · exact z
        · exact absurd z (by simp)
      exact (wl_inl (n := g) e1).trans (ih (tPa T p) (s + 1) g f' (w1 p hp) ht1 h0 (fun j hj => hl (j + 1) (by omega)) (by omega) (by omega) (by omega))
    · rw [if_neg q] at e1
      rw [if_neg q]
      exact wl_inr (n := g) e1
theorem rightQ {S : St} {T : AT} {rg : Nat → Int32} {i p : Nat} (hi : i < 3) (hp : p < 42) (ht : tTh T p = true) (hR : ∀ k, k < 126 → S 25 k = rg k) (h3 : E3 S T (-1)) (hc : CLO T none) (w1 : W1 T) (w2 : W2 T) : X3_rightThatCounts S (nI i) (nI p) = some (rtQ T rg i 42 p) := by
  obtain ⟨n, h1, h2, hl⟩ := pw_bd w1 w2 hp
  exact right_loop hi hR h3 hc w1 n p 0 1000 42 hp ht h2 hl (by omega) (by omega) (by omega)
def dpQ (T : AT) (base : Nat) : Nat → Nat → Nat
  | 0, _ => 0
  | f + 1, c => if c = base then 0 else dpQ T base f (tPa T c) + 1
theorem dpQ_ok {T : AT} {base : Nat} : ∀ i f c, pw (tPa T) i c = base → (∀ j, j < i → pw (tPa T) j c ≠ base) → i < f → dpQ T base f c = i := by
  intro i
  induction i with
  | zero =>
    intro f c h _ hf
    obtain ⟨f', rfl⟩ : ∃ f', f = f' + 1 := ⟨f - 1, by omega⟩
    unfold dpQ
    exact if_pos h
  | succ i ih =>
    intro f c h hl hf
    obtain ⟨f', rfl⟩ : ∃ f', f = f' + 1 := ⟨f - 1, by omega⟩
    unfold dpQ
    rw [if_neg (show ¬ c = base from hl 0 (by omega)), ih f' (tPa T c) h (fun j hj => hl (j + 1) (by omega)) (by omega)]
def nxQ (T : AT) (rf : Nat → Int32) (base sc c : Nat) : Option Nat := if sc = 0 then none else if sc = 1 then sibQ T rf c else match kidQ T rf c with
  | some s => some s
  | none => clQ T rf (dpQ T base 42 c) c
theorem nextQ {S : St} {T : AT} {rf : Nat → Int32} {base sc c : Nat} (hb : base < 42) (hsc : sc < 3) (w0 : W0 T) (w1 : W1 T) (w2 : W2 T) (w3 : W3 T) (hcl : CLO T none) (h3 : E3 S T (-1)) (h4 : E4 S T) (hrf : ∀ k, k < 42 → S 26 k = rf k) (hV : inV T base sc c) : X5_nextInScope S (nI base) (nI sc) (nI c) = some (oI (nxQ T rf base sc c)) ∧ ∀ s, nxQ T rf base sc c = some s → inV T base sc s := by
  obtain ⟨v1, v2, v3, v4⟩ := hV
  unfold X5_nextInScope
  have cases3 : sc = 0 ∨ sc = 1 ∨ sc = 2 := by omega
  rcases cases3 with rfl | rfl | rfl
  · have e : nxQ T rf base 0 c = none := if_pos rfl
    rw [e, if_neg (by decide), if_neg (by decide)]
    exact ⟨rfl, fun s q => nomatch q⟩
  · obtain ⟨p1, p2, p3⟩ := v4 rfl
    have e : nxQ T rf base 1 c = sibQ T rf c := (if_neg (by decide)).trans (if_pos rfl)
    rw [e, ← sibQ_congr hrf c]
    refine ⟨?_, fun s hs => ?_⟩
    · rw [if_pos (show nI 1 = 1 from rfl), order_ok h4 w3 v2, bs, show nI (ordQ T c) = oI (some (ordQ T c)) from rfl, childAfter_ok hb (ord_b w3 v2) w1 w3 h3 h4, bs]
      unfold sibQ
      rw [p1]
    · obtain ⟨a1, a2, a3, a4, a5⟩ := sibQ_sp hs
      exact ⟨a2, a1, ⟨1, a4.trans p1⟩, fun _ => ⟨a4.trans p1, a3, ne_par w0 w1 w2 hb (a4.trans p1) a3⟩⟩
  · obtain ⟨i, hi, hil⟩ := pk_least _ v3
    have hi41 : i ≤ 41 := by
      obtain ⟨n, hn1, hn2, hn3⟩ := pw_bd w1 w2 v2
      rcases Nat.lt_or_ge n i with q | q
      · exfalso
        have e : base = 0 := by rw [← hi]; exact pw_stay w0.2.2.1 hn2 (by omega)
        exact hil n q (by rw [hn2, e])
      · omega
    have first : ∀ j, j < i → pw (tPa T) j c ≠ base := fun j hj => hil j hj
    have e : nxQ T rf base 2 c = match kidQ T (S 26) c with | some s => some s | none => clQ T (S 26) i c := by
      unfold nxQ
      rw [if_neg (by decide), if_neg (by decide), dpQ_ok i 42 c hi first (by omega), ← kidQ_congr hrf c, ← clQ_congr hrf i c]
    rw [e]
    have kE : X4_entryAfter S (nI c) (nI base) = some (oI (match kidQ T (S 26) c with | some s => some s | none => clQ T (S 26) i c)) := by
      unfold X4_entryAfter
      rw [show (-1 : Int32) = oI none from rfl, childAfter_ok (o := none) v2 (fun t q => nomatch q) w1 w3 h3 h4, bs]
      cases hk : kidQ T (S 26) c with
      | none =>
        have hk' : mnA (okQ T (S 26) c none) (ordQ T) 42 = none := hk
        rw [hk', if_pos rfl]
        exact climbE hb w0 w1 w3 hcl h3 h4 i c 0 1000 v2 v1 hi first (by omega) (by omega)
      | some s =>
        have hk' : mnA (okQ T (S 26) c none) (ordQ T) 42 = some s := hk
        have := (kidQ_sp hk).1
        rw [hk', if_neg (show ¬ oI (some s) = oI none from nI_nn (by omega))]
    refine ⟨?_, fun s hs => ?_⟩
    · rw [if_neg (by decide), if_pos (show nI 2 = 2 from rfl), kE, bs]
    · cases hk : kidQ T (S 26) c with
      | none =>
        rw [hk] at hs
        have hs' : clQ T (S 26) i c = some s := hs
        obtain ⟨j, hj, hsj⟩ := clQ_sp i c s hs'
        have hw := pw_lt w1 v2 j
        obtain ⟨a1, a2, a3, a4, a5⟩ := sibQ_sp hsj
        refine ⟨a2, a1, ⟨i - j, ?_⟩, fun q => absurd q (by decide)⟩
        obtain ⟨d, hd⟩ : ∃ d, i - j = d + 1 := ⟨i - j - 1, by omega⟩
        rw [hd]
        show pw (tPa T) d (tPa T s) = base
        rw [a4, ← pw_s (tPa T) j c, ← pw_add, show j + 1 + d = i by omega]
        exact hi
      | some z =>
        rw [hk] at hs
        have hs' : z = s := Option.some.inj hs
        subst hs'
        obtain ⟨a1, a2, a3, a4⟩ := kidQ_sp hk
        refine ⟨a2, a1, ⟨i + 1, ?_⟩, fun q => absurd q (by decide)⟩
        show pw (tPa T) i (tPa T z) = base
        rw [a4]
        exact hi
def okS (A : Nat → Nat) (T : AT) (fk fa fb : Nat → Nat) (rg : Nat → Int32) (u x c : Nat) : Bool := decide (tvQ A T c fk fa fb (x + 1) x = 1 ∧ rtQ T rg u 42 c = 0)
def srQ (nx : Nat → Option Nat) (ok : Nat → Bool) (pl : Nat) : Nat → Option Nat → Nat → Option Nat
  | 0, _, _ => none
  | _ + 1, none, _ => none
  | f + 1, some c, cn => if ok c = true then (if cn = pl then some c else srQ nx ok pl f (nx c) (cn + 1)) else srQ nx ok pl f (nx c) cn
def seQ (A : Nat → Nat) (T : AT) (fk fa fb : Nat → Nat) (rg rf : Nat → Int32) (u base sc x pl : Nat) : Option Nat := srQ (nxQ T rf base sc) (okS A T fk fa fb rg u x) pl 42 (if sc = 1 then kidQ T rf base else some base) 0
section IC5
variable {m n F u base sc x pl : Nat} {S : St} {lg : Nat → CH} {tm mk bt N A fk fa fb : Nat → Nat} {L L' : List Nat} {rg rf : Nat → Int32} {o : Option Nat}
theorem srch (hb : base < 42) (hsc : sc < 3) (hu : u < 3) (hx : x < F) (hpl : pl < 1000) : ∀ d k (cur : Option Nat) (S : St) (cn : Nat), k + d = 42 → cn ≤ k → IC m S n lg tm mk bt N A L L' F fk fa fb rg rf → (∀ c, cur = some c → inV (repl A lg L) base sc c) → ∃ S', wloop (fun a' : (St × Int32 × Int32 × Int32 × Int32 × Int32 × Int32 × Int32 × Int32) => X5_search_H81 a'.1 a'.2.1 a'.2.2.1 a'.2.2.2.1 a'.2.2.2.2.1 a'.2.2.2.2.2.1 a'.2.2.2.2.2.2.1 a'.2.2.2.2.2.2.2.1 a'.2.2.2.2.2.2.2.2) (958 + d) (S, nI u, nI base, nI sc, nI x, nI pl, nI cn, oI cur, nI k) = some (0, oI (srQ (nxQ (repl A lg L) rf base sc) (okS A (repl A lg L) fk fa fb rg u x) pl d cur cn), S') ∧ QE S S' := by
  have e1 : ∀ (S : St) a b z e x6 y z10, X5_search_H81 S a b z e x6 y (-1) z10 = some (.inr (0, -1, S)) := fun S a b z e x6 y z10 => by
    unfold X5_search_H81 X5_search_b140
    by_cases h : (42 : Int32) ≤ z10
    · rw [if_pos h]
      rfl
    · rw [if_neg h, if_pos rfl]
      rfl
  intro d
  induction d with
  | zero =>
    intro k cur S cn hk hcn hI hV
    refine ⟨S, wl_inr (n := 957) ?_, fun _ _ => rfl⟩
    show X5_search_H81 S _ _ _ _ _ _ _ (nI k) = some (.inr (0, -1, S))
    unfold X5_search_H81 X5_search_b140
    rw [if_pos (by rw [show k = 42 by omega]; exact le42)]
    rfl
  | succ d ih =>
    intro k cur S cn hk hcn hI hV
    cases cur with
    | none => exact ⟨S, wl_inr (n := 958 + d) (e1 S _ _ _ _ _ _ _), fun _ _ => rfl⟩
    | some c =>
      obtain ⟨wf, wc, _⟩ := hI.wf
      obtain ⟨_, _, _, _, fA, ⟨gR, gF⟩, _, gE⟩ := id hI
      have hVc := hV c rfl
      have c1 := hVc.1
      have c2 := hVc.2.1
      obtain ⟨⟨tv, S1⟩, t0, t1, t2⟩ := truthFor_ok (N := N) (A := A) c2 hx wf.2.2.2.2.1 hI.re.2.2.2.1 hI.re.2.2.2.2 fA gE
      have t1' : tv = tvQ A (repl A lg L) c fk fa fb (x + 1) x := t1
      have t2' : QE S S1 := t2
      have hI1 := hI.q t2'
      obtain ⟨_, _, _, _, _, ⟨hR, hF⟩, _, _⟩ := id hI1
      have r0 := rightQ hu c2 c1 (fun k hk => (hR k hk).1) hI1.re.2.1 wc wf.2.1 wf.2.2.1
      obtain ⟨n1, n2⟩ := nextQ hb hsc wf.1 wf.2.1 wf.2.2.1 wf.2.2.2.1 wc hI1.re.2.1 hI1.re.2.2.1 hF hVc
      have s121 : ∀ z : Int32, X5_search_b121 S1 (nI u) (nI base) (nI sc) (nI x) (nI pl) z (nI c) (nI k) = some (.inl (S1, nI u, nI base, nI sc, nI x, nI pl, z, oI (nxQ (repl A lg L) rf base sc c), nI (k + 1))) := fun z => by
        unfold X5_search_b121
        rw [n1, bs, nI_succ]
      have z1 : nI cn + 1 = nI (cn + 1) := nI_add cn 1
      have hE : X5_search_H81 S (nI u) (nI base) (nI sc) (nI x) (nI pl) (nI cn) (oI (some c)) (nI k) = X5_search_b105 S1 (nI u) (nI base) (nI sc) (nI x) (nI pl) (nI cn) (nI c) (nI k) (bI (okS A (repl A lg L) fk fa fb rg u x c)) := by
        unfold X5_search_H81 X5_isFound
        rw [oI_s, if_neg (ge42 (by omega)), if_neg (nI_nn (by omega)), t0, bs]
        show (X5_isFound_b11 S1 (nI u) (nI c) tv).bind _ = _
        unfold X5_isFound_b11 X5_isFound_b33 X5_isFound_b34 okS
        rw [← t1']
        by_cases h1 : tv = 1
        · rw [if_pos h1, r0, bs]
          by_cases h2 : rtQ (repl A lg L) rg u 42 c = 0
          · rw [if_pos h2, if_pos (by decide), bs, decide_eq_true (⟨h1, h2⟩ : tv = 1 ∧ rtQ (repl A lg L) rg u 42 c = 0)]
            rfl
          · rw [if_neg h2, if_pos (by decide), bs, decide_eq_false (fun q : tv = 1 ∧ rtQ (repl A lg L) rg u 42 c = 0 => h2 q.2)]
            rfl
        · rw [if_neg h1, if_pos (by decide), bs, decide_eq_false (fun q : tv = 1 ∧ rtQ (repl A lg L) rg u 42 c = 0 => h1 q.1)]
          rfl
      unfold X5_search_b105 X5_search_b115 at hE
      rw [s121, s121] at hE
      rw [z1] at hE
      unfold srQ
      cases hd : okS A (repl A lg L) fk fa fb rg u x c
      · rw [hd, if_pos bit0] at hE
        rw [if_neg (by decide)]
        obtain ⟨S', x1, x2⟩ := ih (k + 1) _ S1 cn (by omega) (by omega) hI1 n2
        exact ⟨S', (wl_inl (n := 958 + d) hE).trans x1, fun j hj => (x2 j hj).trans (t2' j hj)⟩
      · rw [hd, if_neg bit1] at hE
        rw [if_pos rfl]
        by_cases h6 : cn = pl
        · rw [if_pos (by rw [h6])] at hE
          rw [if_pos h6]
          exact ⟨S1, wl_inr (n := 958 + d) hE, t2'⟩
        · rw [if_neg (fun q => h6 ((nI_eq (by omega) (by omega)).mp q))] at hE
          rw [if_neg h6]
          obtain ⟨S', x1, x2⟩ := ih (k + 1) _ S1 (cn + 1) (by omega) (by omega) hI1 n2
          exact ⟨S', (wl_inl (n := 958 + d) hE).trans x1, fun j hj => (x2 j hj).trans (t2' j hj)⟩
theorem ic_search (hI : IC m S n lg tm mk bt N A L L' F fk fa fb rg rf) (hb : base < 42) (hbt : tTh (repl A lg L) base = true) (hsc : sc < 3) (hu : u < 3) (hx : x < F) (hpl : pl < 1000) (hv : seQ A (repl A lg L) fk fa fb rg rf u base sc x pl = o) : ∃ S', X5_search_b5 S (nI u) (nI base) (nI sc) (nI x) (nI pl) = some (0, oI o, S') ∧ IC m S' n lg tm mk bt N A L L' F fk fa fb rg rf := by
  obtain ⟨wf, wc, _⟩ := hI.wf
  obtain ⟨_, _, _, _, fA, ⟨gR, gF⟩, _, gE⟩ := id hI
  have h20 := hI.F20
  have e3 : X5_checkIndex (nI u) 3 = some 0 := ix_in (n := 3) hu (by decide)
  have es : X5_checkArgument (nI sc) 0 2 = some 0 := arg_in (nI_pos (by omega)) (nI_le (b := 2) (by omega) (by decide))
  unfold X5_search_b5
  rw [e3, bs, if_pos rfl, hI.ein hb hbt, bs, if_pos rfl, hI.fil, ix_in hx (by omega), bs, if_pos rfl, if_pos (nI_pos' (by omega)), es, bs, if_pos rfl]
  subst hv
  unfold seQ
  by_cases h1 : sc = 1
  · subst h1
    have kE : X4_childAfter S (nI base) (-1) = some (oI (kidQ (repl A lg L) (S 26) base)) := childAfter_ok (o := none) hb (fun t q => nomatch q) wf.2.1 wf.2.2.2.1 hI.re.2.1 hI.re.2.2.1
    rw [kidQ_congr gF base] at kE
    rw [if_pos (show nI 1 = 1 from rfl), if_pos rfl, kE, bs]
    obtain ⟨S', x1, x2⟩ := srch (u := u) (x := x) (pl := pl) hb hsc hu hx hpl 42 0 (kidQ (repl A lg L) rf base) S 0 rfl (Nat.le_refl 0) hI (fun c hc => by
      obtain ⟨k1, k2, k3, k4⟩ := kidQ_sp hc
      exact ⟨k2, k1, ⟨1, k4⟩, fun _ => ⟨k4, k3, ne_par wf.1 wf.2.1 wf.2.2.1 hb k4 k3⟩⟩)
    exact ⟨S', x1, hI.q x2⟩
  · rw [if_neg (show ¬ nI sc = 1 from fun q => h1 ((nI_eq (b := 1) (by omega) (by decide)).mp q)), if_neg h1]
    obtain ⟨S', x1, x2⟩ := srch (u := u) (x := x) (pl := pl) hb hsc hu hx hpl 42 0 (some base) S 0 rfl (Nat.le_refl 0) hI (fun c hc => by
      rw [← Option.some.inj hc]
      exact ⟨hbt, hb, ⟨0, rfl⟩, fun q => absurd q h1⟩)
    exact ⟨S', x1, hI.q x2⟩
end IC5
