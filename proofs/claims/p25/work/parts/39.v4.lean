/-! CLASS 4: questions, carry, classes, rights, filters -/
section IC4
variable {m n F t p l i q w k : Nat} {S : St} {lg : Nat → CH} {tm mk bt N A fk fa fb : Nat → Nat} {L L' : List Nat} {rg rf : Nat → Int32} {o : Option Nat}
theorem ic_entries {z : Nat} (hI : IC m S n lg tm mk bt N A L L' F fk fa fb rg rf) (hz : cntF (tTh (repl A lg L)) 42 = z) : X5_entries_b5 S = some (0, nI z) := by
  obtain ⟨_, _, ⟨_, _, _, _, d5⟩, _⟩ := hI
  unfold X5_entries_b5
  rw [d5, hz]
theorem ic_there {b : Bool} (hI : IC m S n lg tm mk bt N A L L' F fk fa fb rg rf) (hp : p < 42) (hb : tTh (repl A lg L) p = b) : X5_isThere_b5 S (nI p) = some (0, bI b) := by
  unfold X5_isThere_b5
  rw [has_ok hI.re.1 hp, hb, bs, if_pos (bI_and _)]
theorem ic_there_no {x : Int32} (hI : IC m S n lg tm mk bt N A L L' F fk fa fb rg rf) (hx : ∀ k, k < 42 → x = nI k → tTh (repl A lg L) k = false) : X5_isThere_b5 S x = some (0, 0) := by
  unfold X5_isThere_b5
  rw [has_off hI.re.1 hx, bs, if_pos (by decide)]
theorem ic_parent {v : Int32} (hI : IC m S n lg tm mk bt N A L L' F fk fa fb rg rf) (hp : p < 42) (hpt : tTh (repl A lg L) p = true) (hv : paI (repl A lg L) p = v) : X5_parentOf_b5 S (nI p) = some (0, v) := by
  unfold X5_parentOf_b5
  rw [hI.ein hp hpt, bs, if_pos rfl, parentAt_ok hI.re.2.1 hp, bs, hv]
theorem ic_label (hI : IC m S n lg tm mk bt N A L L' F fk fa fb rg rf) (hp : p < 42) (hpt : tTh (repl A lg L) p = true) (hv : tLa (repl A lg L) p = o) : X5_labelOf_b5 S (nI p) = some (0, oI o) := by
  unfold X5_labelOf_b5
  rw [hI.ein hp hpt, bs, if_pos rfl, labelAt_ok hI.re.2.2.1 hp, bs, hv]
theorem ic_value (hI : IC m S n lg tm mk bt N A L L' F fk fa fb rg rf) (hp : p < 42) (hpt : tTh (repl A lg L) p = true) (hw : w < 4) (hv : tVa (repl A lg L) (4 * p + w) = o) : X5_value_b5 S (nI p) (nI w) = some (0, oI o) := by
  have e4 : X5_checkIndex (nI w) 4 = some 0 := ix_in (n := 4) hw (by decide)
  unfold X5_value_b5
  rw [hI.ein hp hpt, bs, if_pos rfl, e4, bs, if_pos rfl, valueAt_ok hp hw hI.re.2.2.2.2, bs, hv]
theorem ic_whole {b : Bool} (hI : IC m S n lg tm mk bt N A L L' F fk fa fb rg rf) (hp : p < 42) (hpt : tTh (repl A lg L) p = true) (hb : gdA N (repl A lg L) p 4 = b) : X5_isWhole_b5 S (nI p) = some (0, bI b) := by
  obtain ⟨wf, _, _⟩ := hI.wf
  obtain ⟨_, _, _, _, fA, _⟩ := id hI
  unfold X5_isWhole_b5
  rw [hI.ein hp hpt, bs, if_pos rfl, allNeeded_ok hp wf.2.2.2.2.1 wf.2.2.2.2.2.1 hI.re.2.2.2.1 hI.re.2.2.2.2 fA, hb, bs, if_pos (bI_and _)]
theorem ic_find_hit (hI : IC m S n lg tm mk bt N A L L' F fk fa fb rg rf) (hp : p < 42) (hpt : tTh (repl A lg L) p = true) (hl : l < 100) (hk : k < 42) (hh : hit (repl A lg L) p (some l) (-1) k = true) : X5_find_b5 S (nI p) (nI l) = some (0, nI k) := by
  obtain ⟨wf, _, _⟩ := hI.wf
  unfold X5_find_b5
  rw [hI.ein hp hpt, bs, if_pos rfl, arg99 hl, bs, if_pos rfl]
  rcases cwl_ok (l := some l) (e := -1) hp (E3.all hI.re.2.1 _) hI.re.2.2.1 wf.2.1 wf.2.2.2.1 (w3_of (x := 0) (by omega)) with ⟨z, hz, hzh, e9⟩ | ⟨hno, _⟩
  · rw [show nI l = oI (some l) from rfl, e9, bs, hit_one wf.2.2.2.2.2.2 hz hk hzh hh]
  · rw [hno k hk] at hh
    exact absurd hh (by decide)
theorem ic_find_no (hI : IC m S n lg tm mk bt N A L L' F fk fa fb rg rf) (hp : p < 42) (hpt : tTh (repl A lg L) p = true) (hl : l < 100) (hh : anyHit (repl A lg L) p (some l) (-1) = false) : X5_find_b5 S (nI p) (nI l) = some (0, -1) := by
  obtain ⟨wf, _, _⟩ := hI.wf
  unfold X5_find_b5
  rw [hI.ein hp hpt, bs, if_pos rfl, arg99 hl, bs, if_pos rfl]
  rcases cwl_ok (l := some l) (e := -1) hp (E3.all hI.re.2.1 _) hI.re.2.2.1 wf.2.1 wf.2.2.2.1 (w3_of (x := 0) (by omega)) with ⟨z, hz, hzh, _⟩ | ⟨_, e9⟩
  · rw [anyHit_no hh hz] at hzh
    exact absurd hzh (by decide)
  · rw [show nI l = oI (some l) from rfl, e9, bs]
theorem ic_find_or (hI : IC m S n lg tm mk bt N A L L' F fk fa fb rg rf) (hp : p < 42) (hpt : tTh (repl A lg L) p = true) (hl : l < 100) : (∃ z, z < 42 ∧ X5_find_b5 S (nI p) (nI l) = some (0, nI z)) ∨ (anyHit (repl A lg L) p (some l) (-1) = false ∧ X5_find_b5 S (nI p) (nI l) = some (0, -1)) := by
  obtain ⟨wf, _, _⟩ := hI.wf
  unfold X5_find_b5
  rw [hI.ein hp hpt, bs, if_pos rfl, arg99 hl, bs, if_pos rfl]
  rcases cwl_ok (l := some l) (e := -1) hp (E3.all hI.re.2.1 _) hI.re.2.2.1 wf.2.1 wf.2.2.2.1 (w3_of (x := 0) (by omega)) with ⟨z, hz, hzh, e9⟩ | ⟨hno, e9⟩
  · left
    rw [show nI l = oI (some l) from rfl, e9, bs]
    exact ⟨z, hz, rfl⟩
  · right
    rw [show nI l = oI (some l) from rfl, e9, bs]
    exact ⟨anyHit_f hno, rfl⟩
theorem ic_timeOf {c : Nat} (hI : IC m S n lg tm mk bt N A L L' F fk fa fb rg rf) (hc : c < n) : X5_timeOf S (nI c) = some (0, nI (tm c)) := by
  obtain ⟨⟨a, _⟩, ⟨b1, b2⟩, _⟩ := hI
  have h40 := a.1
  have hb := a.2.1 c hc
  unfold X5_timeOf
  rw [b1, ix_in hc (by omega), bs, if_pos rfl]
  unfold X2_timeAt
  rw [at_in (by omega) (by decide), bs, bs, (b2 c hc).2, show (2 : Int32) = nI 2 from rfl, pk_div (by unfold stp; omega) (by decide) (by decide), show stp tm mk c / 2 = tm c by unfold stp; omega]
theorem ic_changes (hI : IC m S n lg tm mk bt N A L L' F fk fa fb rg rf) : X5_changes S = some (nI n) := by
  unfold X5_changes
  rw [hI.cnt]
theorem ic_alike_t (hI : IC 0 S n lg tm mk bt N A L L' F fk fa fb rg rf) (h : ∀ k, k < 42 → EQK (repl A lg L) (repl A lg L') k) : X5_areAlike S = some 1 := by
  obtain ⟨wf, _, _⟩ := hI.wf
  have hI2 := hI.swap (by decide)
  obtain ⟨uf, _, _⟩ := hI2.wf
  unfold X5_areAlike
  rcases sameTrees_ok wf uf hI.re hI2.re with ⟨e, _⟩ | ⟨_, k, hk, z⟩
  · rw [e, bs]
    rfl
  · exact absurd (h k hk) z
theorem ic_alike_f (hI : IC 0 S n lg tm mk bt N A L L' F fk fa fb rg rf) (hk : k < 42) (h : ¬ EQK (repl A lg L) (repl A lg L') k) : X5_areAlike S = some 0 := by
  obtain ⟨wf, _, _⟩ := hI.wf
  have hI2 := hI.swap (by decide)
  obtain ⟨uf, _, _⟩ := hI2.wf
  unfold X5_areAlike
  rcases sameTrees_ok wf uf hI.re hI2.re with ⟨_, z⟩ | ⟨e, _⟩
  · exact absurd (z k hk) h
  · rw [e, bs]
    rfl
theorem ic_alike_or (hI : IC 0 S n lg tm mk bt N A L L' F fk fa fb rg rf) : X5_areAlike S = some 0 ∨ X5_areAlike S = some 1 := by
  obtain ⟨wf, _, _⟩ := hI.wf
  have hI2 := hI.swap (by decide)
  obtain ⟨uf, _, _⟩ := hI2.wf
  unfold X5_areAlike
  rcases sameTrees_ok wf uf hI.re hI2.re with ⟨e, _⟩ | ⟨e, _⟩
  · right
    rw [e, bs]
    rfl
  · left
    rw [e, bs]
    rfl
theorem ic_carry {c : Nat} {K : List Nat} (hm : m < 2) (hI : IC m S n lg tm mk bt N A L L' F fk fa fb rg rf) (hc : c < n) (hn : c ∉ L) (hK : insL (stp tm mk) c L = K) : ∃ S', X5_carry_b16 S (nI c) = some (0, 1, S') ∧ IC m S' n lg tm mk (fu bt c (bt c ||| 2 ^ m)) N A K L' F fk fa fb rg rf := by
  obtain ⟨⟨a, amk⟩, ⟨b1, b2⟩, ⟨d1, d2, d3, d4, d5⟩, e, f1, ⟨g1, g2⟩, h2, h4⟩ := id hI
  have h40 := a.1
  have hbc := a.2.1 c hc
  have hb4 := hbc.2.2.2
  have hlen := d3.len h40
  have hW : LOGW n lg tm mk (fu bt c (bt c ||| 2 ^ m)) := ⟨h40, fun d hd => by
    by_cases h : d = c
    · rw [h, fu_s]
      exact ⟨hbc.1, hbc.2.1, hbc.2.2.1, bor2 _ hb4 m hm⟩
    · rw [fu_n h]
      exact a.2.1 d hd, a.2.2⟩
  have hMK : MKB n mk (fu bt c (bt c ||| 2 ^ m)) := fun d hd => by
    by_cases h : d = c
    · rw [h, fu_s, bor3 _ hb4 m hm _ hbc.2.2.1, amk c hc, Bool.true_or]
    · rw [fu_n h]
      exact amk d hd
  have kn2 : ∀ K, SO (stp tm mk) K → (∀ d, d ∈ K ↔ d = c ∨ d ∈ L) → KN n (fu bt c (bt c ||| 2 ^ m)) m (stp tm mk) K := fun K so hK => ⟨so, fun d => by
    rw [hK d, d3.2 d]
    by_cases h : d = c
    · rw [h, fu_s, bor3 _ hb4 m hm m hm, decide_eq_true rfl, Bool.or_true]
      exact ⟨fun _ => ⟨hc, rfl⟩, fun _ => .inl rfl⟩
    · rw [fu_n h]
      exact ⟨fun q => q.elim (fun z => absurd z h) id, fun q => .inr q⟩⟩
  have kn3 : KN n (fu bt c (bt c ||| 2 ^ m)) (1 - m) (stp tm mk) L' := ⟨e.2.2.1.1, fun d => by
    rw [e.2.2.1.2 d]
    by_cases h : d = c
    · rw [h, fu_s, bor3 _ hb4 m hm (1 - m) (by omega), decide_eq_false (show ¬ 1 - m = m by omega), Bool.or_false]
    · rw [fu_n h]⟩
  have hne : ∀ d, d ∈ L → stp tm mk d ≠ stp tm mk c := fun d hd q => hn (by
    have := a.2.2 d c ((d3.2 d).mp hd).1 hc q
    rw [← this]
    exact hd)
  have so2 := insL_SO L d3.1 hne
  have hKn := kn2 _ so2 (fun d => insL_mem (stp tm mk) c d L)
  have hl2 := hKn.len h40
  rw [insL_len] at hl2
  have bnd : ∀ d, d = c ∨ d ∈ L → d < n := fun d hd => hd.elim (fun q => by omega) (fun q => ((d3.2 d).mp q).1)
  obtain ⟨S2, r0, r1, r2, r3, k4, r5⟩ := learn_ok (S := S) (st := stp tm mk) (c := c) (n := n) (lg := lg) (N := N) (A := A) d2 (by omega) (fun d hd => ⟨by have := bnd d hd; omega, (b2 d (bnd d hd)).2, by
    have q := a.2.1 d (bnd d hd)
    have := bnd d hd
    unfold stp
    omega⟩) so2 d3.1 (fun d hd => ⟨(b2 d (bnd d hd)).1, bnd d hd, (a.2.1 d (bnd d hd)).1⟩) f1 d4 d5
  unfold X5_carry_b16 X5_carry_b32
  rw [knows_ok d2 hlen (by omega) (fun d hd => by have := ((d3.2 d).mp hd).1; omega), bs, decide_eq_false hn, if_pos bit0, r0, bs]
  rw [hK] at r1 r2 r3 hKn
  refine ⟨S2, rfl, ⟨hW, hMK⟩, ⟨by rw [k4 14 (by decide)]; exact b1, fun d hd => ⟨(b2 d hd).1.fr k4, by rw [k4 16 (by decide)]; exact (b2 d hd).2⟩⟩, ⟨by rw [r5 0 (by decide) (by decide)]; exact d1, r1, hKn, r2, r3⟩, ?_, f1.fr (k4 22 (by decide)) (k4 23 (by decide)), ⟨?_, ?_⟩, ?_, ?_⟩
  · have e' : TR (swS S2) (1 - m) n lg bt (stp tm mk) A L' := e.fr (fun k hk => by
      show S2 (sw k) = S (sw k)
      rw [sw_lo hk]
      exact k4 _ (by omega))
    exact ⟨e'.1, e'.2.1, kn3, e'.2.2.2⟩
  · rw [k4 25 (by decide)]; exact g1
  · rw [k4 26 (by decide)]; exact g2
  · rw [k4 27 (by decide)]; exact h2
  · unfold FG
    rw [k4 28 (by decide), k4 29 (by decide), k4 30 (by decide)]; exact h4
theorem ic_carry_no {c : Nat} (hI : IC m S n lg tm mk bt N A L L' F fk fa fb rg rf) (hc : c < n) (hn : c ∈ L) : X5_carry_b16 S (nI c) = some (0, 0, S) := by
  obtain ⟨⟨a, amk⟩, ⟨b1, b2⟩, ⟨d1, d2, d3, d4, d5⟩, e, f1, ⟨g1, g2⟩, h2, h4⟩ := id hI
  have h40 := a.1
  unfold X5_carry_b16
  rw [knows_ok d2 (d3.len h40) (by omega) (fun d hd => by have := ((d3.2 d).mp hd).1; omega), bs, decide_eq_true hn, if_neg bit1]
theorem ic_class {a b : Nat} (hI : IC m S 0 lg tm mk bt N A [] [] F fk fa fb rg rf) (hi : i < 3) (ha : a < 16) (hb : b < 16) : ∃ S', X5_setClass S (nI i) (nI a) (nI b) = some (0, S') ∧ IC m S' 0 lg tm mk bt (fu N i a) (fu A i (b ||| a)) [] [] F fk fa fb rg rf := by
  obtain ⟨aw, ⟨b1, b2⟩, d, e, f1, ⟨g1, g2⟩, h2, h4⟩ := id hI
  have e3 : X5_checkIndex (nI i) 3 = some 0 := ix_in (n := 3) hi (by decide)
  have ea : ∀ a, a < 16 → X5_checkArgument (nI a) 0 15 = some 0 := fun a ha => arg_in (nI_pos (by omega)) (nI_le (b := 15) (by omega) (by decide))
  obtain ⟨ob, ob2⟩ := or16 a ha b hb
  unfold X5_setClass X5_setClass_b49
  rw [e3, bs, if_pos rfl, ea a ha, bs, if_pos rfl, ea b hb, bs, if_pos rfl, b1, if_pos (by decide)]
  unfold X0_define X0_define_b9 X0_define_b20
  rw [put_in hi (by decide), bs, put_in hi (by decide), bs, bs, ob]
  generalize hV : up (up S 22 (upd (S 22) i (nI a))) 23 _ = V
  have v22 : V 22 = upd (S 22) i (nI a) := by rw [← hV, up_n (by decide), up_s]
  have v23 : V 23 = upd (S 23) i (nI (b ||| a)) := by rw [← hV, up_s, up_n (by decide)]
  have vf : ∀ k, k ≠ 22 → k ≠ 23 → V k = S k := fun k x y => by rw [← hV, up_n y, up_n x]
  have t1 : TR V m 0 lg bt (stp tm mk) (fu A i (b ||| a)) [] := TR.fr (S := S) d (fun k hk => vf k (by omega) (by omega))
  have t2 : TR (swS V) (1 - m) 0 lg bt (stp tm mk) (fu A i (b ||| a)) [] := TR.fr (S := swS S) e (fun k hk => by
    show V (sw k) = S (sw k)
    rw [sw_lo hk]
    exact vf _ (by omega) (by omega))
  refine ⟨V, rfl, aw, ⟨by rw [vf 14 (by decide) (by decide)]; exact b1, fun c hc => absurd hc (Nat.not_lt_zero c)⟩, t1, t2, fun j hj => ?_, ⟨?_, ?_⟩, ?_, ?_⟩
  · rw [v22, v23]
    by_cases h : j = i
    · rw [h, upd_s, upd_s, fu_s, fu_s]
      exact ⟨rfl, ha, rfl, ob2⟩
    · rw [upd_n h, upd_n h, fu_n h, fu_n h]
      exact f1 j hj
  · rw [vf 25 (by decide) (by decide)]; exact g1
  · rw [vf 26 (by decide) (by decide)]; exact g2
  · rw [vf 27 (by decide) (by decide)]; exact h2
  · unfold FG
    rw [vf 28 (by decide) (by decide), vf 29 (by decide) (by decide), vf 30 (by decide) (by decide)]
    exact h4
theorem ic_right {v : Int32} (hI : IC m S n lg tm mk bt N A L L' F fk fa fb rg rf) (hi : i < 3) (hk : k < 42) (hv : v = -1 ∨ v = 0 ∨ v = 1) : ∃ S', X5_setRight S (nI i) (nI k) v = some (0, S') ∧ IC m S' n lg tm mk bt N A L L' F fk fa fb (fu rg (42 * i + k) v) rf := by
  obtain ⟨a, ⟨b1, b2⟩, d, e, f1, ⟨g1, g2⟩, h2, h4⟩ := id hI
  have e3 : X5_checkIndex (nI i) 3 = some 0 := ix_in (n := 3) hi (by decide)
  have e42 : X5_checkIndex (nI k) 42 = some 0 := ix_in (n := 42) hk (by decide)
  have ev : X5_checkArgument v (-1) 1 = some 0 := by rcases hv with rfl | rfl | rfl <;> decide
  unfold X5_setRight X5_setRight_b27
  rw [e3, bs, if_pos rfl, e42, bs, if_pos rfl, ev, bs, if_pos rfl]
  unfold X3_putRight X3_putRight_b14
  rw [ix42, put_in (by omega) (by decide), bs, bs]
  generalize hV : up S 25 (upd (S 25) (42 * i + k) v) = V
  have v25 : V 25 = upd (S 25) (42 * i + k) v := by rw [← hV, up_s]
  have vf : ∀ k, k ≠ 25 → V k = S k := fun k x => by rw [← hV, up_n x]
  refine ⟨V, rfl, a, ⟨by rw [vf 14 (by decide)]; exact b1, fun c hc => ⟨(b2 c hc).1.fr2 (fun k p q => vf k (by omega)), by rw [vf 16 (by decide)]; exact (b2 c hc).2⟩⟩, d.fr (fun k hk => vf k (by omega)), e.fr (fun k hk => ?_), f1.fr (vf 22 (by decide)) (vf 23 (by decide)), ⟨fun j hj => ?_, ?_⟩, ?_, ?_⟩
  · show V (sw k) = S (sw k)
    rw [sw_lo hk]
    exact vf _ (by omega)
  · rw [v25]
    by_cases q : j = 42 * i + k
    · rw [q, upd_s, fu_s]
      exact ⟨rfl, hv⟩
    · rw [upd_n q, fu_n q]
      exact g1 j hj
  · rw [vf 26 (by decide)]; exact g2
  · rw [vf 27 (by decide)]; exact h2
  · unfold FG
    rw [vf 28 (by decide), vf 29 (by decide), vf 30 (by decide)]
    exact h4
theorem ic_refer {b : Bool} (hI : IC m S n lg tm mk bt N A L L' F fk fa fb rg rf) (hk : k < 42) : ∃ S', X5_refer S (nI k) (bI b) = some (0, S') ∧ IC m S' n lg tm mk bt N A L L' F fk fa fb rg (fu rf k (bI b)) := by
  obtain ⟨a, ⟨b1, b2⟩, d, e, f1, ⟨g1, g2⟩, h2, h4⟩ := id hI
  have e42 : X5_checkIndex (nI k) 42 = some 0 := ix_in (n := 42) hk (by decide)
  have enr : vp_nar .boolean (bI b) = bI b := by cases b <;> decide
  unfold X5_refer X5_refer_b15
  rw [e42, bs, if_pos rfl]
  unfold X3_putReferral X3_putReferral_b17
  rw [if_neg (nI_pos (by omega)), if_neg (ge42 hk), if_pos (in42 hk), bs, cl42 hk, enr]
  generalize hV : up S 26 (upd (S 26) k (bI b)) = V
  have v26 : V 26 = upd (S 26) k (bI b) := by rw [← hV, up_s]
  have vf : ∀ k, k ≠ 26 → V k = S k := fun k x => by rw [← hV, up_n x]
  refine ⟨V, rfl, a, ⟨by rw [vf 14 (by decide)]; exact b1, fun c hc => ⟨(b2 c hc).1.fr2 (fun k p q => vf k (by omega)), by rw [vf 16 (by decide)]; exact (b2 c hc).2⟩⟩, d.fr (fun k hk => vf k (by omega)), e.fr (fun k hk => ?_), f1.fr (vf 22 (by decide)) (vf 23 (by decide)), ⟨?_, fun j hj => ?_⟩, ?_, ?_⟩
  · show V (sw k) = S (sw k)
    rw [sw_lo hk]
    exact vf _ (by omega)
  · rw [vf 25 (by decide)]; exact g1
  · rw [v26]
    by_cases q : j = k
    · rw [q, upd_s, fu_s]
    · rw [upd_n q, fu_n q]
      exact g2 j hj
  · rw [vf 27 (by decide)]; exact h2
  · unfold FG
    rw [vf 28 (by decide), vf 29 (by decide), vf 30 (by decide)]
    exact h4
theorem ic_filter {a b : Nat} {S1 : St} (hI : IC m S n lg tm mk bt N A L L' F fk fa fb rg rf) (hF : F < 20) (h1 : k < 6) (h2 : k < 3 → a < 4 ∧ b < 10) (h3 : 3 ≤ k → a < F ∧ b < F) (s1 : ∀ j, j < 27 ∨ 31 ≤ j → S1 j = S j) (s2 : S1 27 4 = nI (F + 1)) (s3 : ∀ j d, d ≠ F → 28 ≤ j → j < 31 → S1 j d = S j d) (s4 : S1 28 F = nI k) (s5 : S1 29 F = nI a) (s6 : S1 30 F = nI b) : IC m S1 n lg tm mk bt N A L L' (F + 1) (fu fk F k) (fu fa F a) (fu fb F b) rg rf := by
  obtain ⟨x, ⟨b1, b2⟩, d, e, f1, ⟨g1, g2⟩, q2, q4⟩ := hI
  refine ⟨x, ⟨by rw [s1 14 (by omega)]; exact b1, fun c hc => ⟨(b2 c hc).1.fr2 (fun k p q => s1 k (by omega)), by rw [s1 16 (by omega)]; exact (b2 c hc).2⟩⟩, d.fr (fun k hk => s1 k (by omega)), e.fr (fun k hk => ?_), f1.fr (s1 22 (by omega)) (s1 23 (by omega)), ⟨?_, ?_⟩, s2, ⟨by omega, fun j hj => ?_⟩⟩
  · show S1 (sw k) = S (sw k)
    rw [sw_lo hk]
    exact s1 _ (by omega)
  · rw [s1 25 (by omega)]; exact g1
  · rw [s1 26 (by omega)]; exact g2
  · by_cases h : j = F
    · rw [h, s4, s5, s6, fu_s, fu_s, fu_s]
      exact ⟨rfl, rfl, rfl, h1, h2, h3⟩
    · rw [s3 28 j h (by decide) (by decide), s3 29 j h (by decide) (by decide), s3 30 j h (by decide) (by decide), fu_n h, fu_n h, fu_n h]
      exact q4.2 j (by omega)
theorem ic_test {a b : Nat} (hI : IC m S n lg tm mk bt N A L L' F fk fa fb rg rf) (hF : F < 20) (hk : k < 3) (ha : a < 4) (hb : b < 10) : ∃ S', X5_test S (nI k) (nI a) (nI b) = some (0, nI F, S') ∧ IC m S' n lg tm mk bt N A L L' (F + 1) (fu fk F k) (fu fa F a) (fu fb F b) rg rf := by
  have e1 : X5_checkArgument (nI k) 0 2 = some 0 := arg_in (nI_pos (by omega)) (nI_le (b := 2) (by omega) (by decide))
  have e2 : X5_checkArgument (nI a) 0 3 = some 0 := arg_in (nI_pos (by omega)) (nI_le (b := 3) (by omega) (by decide))
  have e3 : X5_checkArgument (nI b) 0 9 = some 0 := arg_in (nI_pos (by omega)) (nI_le (b := 9) (by omega) (by decide))
  obtain ⟨S1, f0, f1, f2, f3, f4, f5, f6⟩ := fapp_ok (nI k) (nI a) (nI b) hI.fil hF
  unfold X5_test X5_test_b33
  rw [e1, bs, if_pos rfl, e2, bs, if_pos rfl, e3, bs, if_pos rfl, froom_in hI hF, bs, if_pos rfl, f0, bs]
  exact ⟨S1, rfl, ic_filter hI hF (by omega) (fun _ => ⟨ha, hb⟩) (fun q => absurd q (by omega)) f1 f2 f3 f4 f5 f6⟩
theorem ic_test_full {a b : Nat} (hI : IC m S n lg tm mk bt N A L L' F fk fa fb rg rf) (hF : F = 20) (hk : k < 3) (ha : a < 4) (hb : b < 10) : X5_test S (nI k) (nI a) (nI b) = some (3, 0, S) := by
  have e1 : X5_checkArgument (nI k) 0 2 = some 0 := arg_in (nI_pos (by omega)) (nI_le (b := 2) (by omega) (by decide))
  have e2 : X5_checkArgument (nI a) 0 3 = some 0 := arg_in (nI_pos (by omega)) (nI_le (b := 3) (by omega) (by decide))
  have e3 : X5_checkArgument (nI b) 0 9 = some 0 := arg_in (nI_pos (by omega)) (nI_le (b := 9) (by omega) (by decide))
  unfold X5_test
  rw [e1, bs, if_pos rfl, e2, bs, if_pos rfl, e3, bs, if_pos rfl, froom_out hI hF, bs, if_neg (by decide)]
theorem ic_join {a b : Nat} (hI : IC m S n lg tm mk bt N A L L' F fk fa fb rg rf) (hF : F < 20) (hk : k < 3) (ha : a < F) (hb : b < F) : ∃ S', X5_join S (nI k) (nI a) (nI b) = some (0, nI F, S') ∧ IC m S' n lg tm mk bt N A L L' (F + 1) (fu fk F (3 + k)) (fu fa F a) (fu fb F b) rg rf := by
  have e1 : X5_checkArgument (nI k) 0 2 = some 0 := arg_in (nI_pos (by omega)) (nI_le (b := 2) (by omega) (by decide))
  have e3k : 3 + nI k = nI (3 + k) := nI_add 3 k
  obtain ⟨S1, f0, f1, f2, f3, f4, f5, f6⟩ := fapp_ok (nI (3 + k)) (nI a) (nI b) hI.fil hF
  unfold X5_join X5_join_b44
  rw [hI.fil, ix_in ha (by omega), bs, if_pos rfl, ix_in hb (by omega), bs, if_pos rfl, e1, bs, if_pos rfl, froom_in hI hF, bs, if_pos rfl, e3k, f0, bs]
  exact ⟨S1, rfl, ic_filter hI hF (by omega) (fun q => absurd q (by omega)) (fun _ => ⟨ha, hb⟩) f1 f2 f3 f4 f5 f6⟩
theorem ic_join_full {a b : Nat} (hI : IC m S n lg tm mk bt N A L L' F fk fa fb rg rf) (hF : F = 20) (hk : k < 3) (ha : a < F) (hb : b < F) : X5_join S (nI k) (nI a) (nI b) = some (3, 0, S) := by
  have e1 : X5_checkArgument (nI k) 0 2 = some 0 := arg_in (nI_pos (by omega)) (nI_le (b := 2) (by omega) (by decide))
  unfold X5_join
  rw [hI.fil, ix_in ha (by omega), bs, if_pos rfl, ix_in hb (by omega), bs, if_pos rfl, e1, bs, if_pos rfl, froom_out hI hF, bs, if_neg (by decide)]
theorem ic_holds {v : Int32} (hI : IC m S n lg tm mk bt N A L L' F fk fa fb rg rf) (hx : k < F) (hp : p < 42) (hpt : tTh (repl A lg L) p = true) (hv : tvQ A (repl A lg L) p fk fa fb (k + 1) k = v) : ∃ S', X5_holds_b5 S (nI k) (nI p) = some (0, v, S') ∧ IC m S' n lg tm mk bt N A L L' F fk fa fb rg rf := by
  obtain ⟨wf, _, _⟩ := hI.wf
  obtain ⟨_, _, _, _, fA, _, _, gE⟩ := id hI
  have h20 := hI.F20
  obtain ⟨⟨v', S'⟩, k0, k1, k2⟩ := truthFor_ok (N := N) (A := A) hp hx wf.2.2.2.2.1 hI.re.2.2.2.1 hI.re.2.2.2.2 fA gE
  have k1' : v' = v := k1.trans hv
  have k2' : QE S S' := k2
  unfold X5_holds_b5 X5_holds_b35
  rw [hI.fil, ix_in hx (by omega), bs, if_pos rfl, hI.ein hp hpt, bs, if_pos rfl, k0, bs]
  subst k1'
  exact ⟨S', rfl, hI.q k2'⟩
end IC4
