/-! BASE 2: guards, binds, loops, worlds -/
theorem lt_ble {a b : Nat} (h : Nat.ble (a + 1) b = true) : a < b := Nat.le_of_ble_eq_true h
def inB (i : Int32) (n : Nat) : Bool := decide (¬ (i < 0 ∨ n ≤ i.toNatClampNeg))
theorem gd {c : Prop} [Decidable c] {α : Type} {e : Option α} {r : α} (h : (if c then e else none) = some r) : c ∧ e = some r := by
  by_cases hc : c
  · exact ⟨hc, (if_pos hc).symm.trans h⟩
  · exact absurd ((if_neg hc).symm.trans h) (fun z => nomatch z)
theorem gdB {i : Int32} {n : Nat} {α : Type} {e : Option α} {r : α} (h : (if inB i n = true then e else none) = some r) : vp_in i n ∧ e = some r := ⟨of_decide_eq_true (p := ¬ (i < 0 ∨ n ≤ i.toNatClampNeg)) (gd h).1, (gd h).2⟩
theorem ob {α β : Type} {o : Option α} {f : α → Option β} {r : β} (h : o.bind f = some r) : ∃ a, o = some a ∧ f a = some r := by
  cases o with
  | none => exact absurd h (fun z => nomatch z)
  | some a => exact ⟨a, rfl, h⟩
def exI {α β : Type} (o : Option β) : Option (α ⊕ β) := o.map Sum.inr
theorem exI_some {α β : Type} {o : Option β} {z : α ⊕ β} (h : exI o = some z) : ∃ r, o = some r ∧ z = .inr r := by
  cases o with
  | none => exact absurd h (fun z => nomatch z)
  | some a => exact ⟨a, rfl, (Option.some.inj h).symm⟩
def wloop {α β : Type} (f : α → Option (α ⊕ β)) : Nat → α → Option β
  | 0, _ => none
  | n + 1, a => match f a with
    | none => none
    | some (.inl a') => wloop f n a'
    | some (.inr r) => some r
theorem wloop_met {α β : Type} {f : α → Option (α ⊕ β)} {P : α → Prop} {r : β} (step : ∀ (a : α) (z : α ⊕ β), f a = some z → (∀ a', z = .inl a' → P a') → (∀ r', z = .inr r' → r' = r) → P a) : ∀ (n : Nat) (a : α), wloop f n a = some r → P a := by
  intro n
  induction n with
  | zero => intro a h; exact absurd h (fun z => nomatch z)
  | succ n ih =>
    intro a h
    cases hf : f a with
    | none => rw [wloop, hf] at h; exact absurd h (fun z => nomatch z)
    | some z =>
      cases z with
      | inl a' =>
        rw [wloop, hf] at h
        exact step a _ hf (fun a2 h2 => by cases h2; exact ih a' h) (fun r' h2 => nomatch h2)
      | inr r1 =>
        rw [wloop, hf] at h
        exact step a _ hf (fun a2 h2 => nomatch h2) (fun r' h2 => by cases h2; exact Option.some.inj h)
theorem lt_of_at {w : va_W} {q0 : Nat} {x : Nat × va_E} (h : w[q0]? = some x) : q0 < w.length := (List.getElem?_eq_some_iff.mp h).1
theorem set_at {w : va_W} {q0 : Nat} {x : Nat × va_E} (h : q0 < w.length) : (w.set q0 x)[q0]? = some x := by rw [List.getElem?_set_self h]
theorem set_two {w : va_W} {q0 : Nat} {x y : Nat × va_E} : (w.set q0 x).set q0 y = w.set q0 y := List.set_set ..
theorem set_self {w : va_W} {q0 : Nat} {x : Nat × va_E} (h : w[q0]? = some x) : w.set q0 x = w := by
  apply List.ext_getElem?
  intro i
  by_cases hi : q0 = i
  · subst hi
    rw [List.getElem?_set_self (lt_of_at h), h]
  · rw [List.getElem?_set_ne hi]
theorem sw_out3_0 {x : Int32} (h0 : ¬ x = 0) (h1 : ¬ x = 1) (h2 : ¬ x = 2) : x.toInt < 0 ∨ 2 < x.toInt := by
  rcases Int.lt_trichotomy x.toInt 1 with h | h | h
  · rcases Int.lt_trichotomy x.toInt 0 with g | g | g
    · exact Or.inl g
    · exact absurd (Int32.toInt_inj.mp (by rw [g]; decide)) h0
    · omega
  · exact absurd (Int32.toInt_inj.mp (by rw [h]; decide)) h1
  · rcases Int.lt_trichotomy x.toInt 2 with g | g | g
    · omega
    · exact absurd (Int32.toInt_inj.mp (by rw [g]; decide)) h2
    · exact Or.inr g
theorem sw_out3_3 {x : Int32} (h0 : ¬ x = 3) (h1 : ¬ x = 4) (h2 : ¬ x = 5) : x.toInt < 3 ∨ 5 < x.toInt := by
  rcases Int.lt_trichotomy x.toInt 4 with h | h | h
  · rcases Int.lt_trichotomy x.toInt 3 with g | g | g
    · exact Or.inl g
    · exact absurd (Int32.toInt_inj.mp (by rw [g]; decide)) h0
    · omega
  · exact absurd (Int32.toInt_inj.mp (by rw [h]; decide)) h1
  · rcases Int.lt_trichotomy x.toInt 5 with g | g | g
    · omega
    · exact absurd (Int32.toInt_inj.mp (by rw [g]; decide)) h2
    · exact Or.inr g
theorem sw_out4_0 {x : Int32} (h0 : ¬ x = 0) (h1 : ¬ x = 1) (h2 : ¬ x = 2) (h3 : ¬ x = 3) : x.toInt < 0 ∨ 3 < x.toInt := by
  rcases sw_out3_0 h0 h1 h2 with h | h
  · exact Or.inl h
  · rcases Int.lt_trichotomy x.toInt 3 with g | g | g
    · omega
    · exact absurd (Int32.toInt_inj.mp (by rw [g]; decide)) h3
    · exact Or.inr g
theorem nm_mem (n : Nat) {q : String × Nat × MethodName × String} (h : nwM[n]? = some q) : q ∈ nwM := List.mem_of_getElem? h
theorem nf_mem (n : Nat) {q : String × Nat × String × String × String × String} (h : nwF[n]? = some q) : q ∈ nwF := List.mem_of_getElem? h
section XR2
variable {p : Program} {l : Launch} {e : Env} {R : Room} {s : State} {m : MethodId} {args : Array Value} {below : List Frame} {meth : Method} {c : Code} {D : va_G} {w0 : va_W} {n : Nat} {Q : State → Prop} {w : va_W} {k j pc : Nat} {lv : List (Nat × Value)} {st : List Value} {tys : List (ClassId × FieldType)}
theorem x_eqw {w' : va_W} (h : w = w') (K : XW p l e R s m args below meth c D w0 n Q w' k j pc lv st) : XW p l e R s m args below meth c D w0 n Q w k j pc lv st := h ▸ K
theorem x_ci0 {v : Int32} {w' : va_W} {stk rest : List Value} {a : Array Value} (hr : ∀ (H : Heap) (locs : List Loc) (ls : Array Slot), va_P D vwCl w H → va_D (va_A w0 s.heap.size) w → va_S (va_A w0 s.heap.size) s.heap H locs → ls.size = n → va_Run p l e R s m args below meth c H locs k j 0 0 (F0 m pc ls stk) rest (QI D tys w w' H.size v a) (va_A w H.size)) (K : XW p l e R s m args below meth c D w0 n Q w' k j (pc + 3) lv (.int v :: rest)) : XW p l e R s m args below meth c D w0 n Q w k j pc lv stk := x_ci hr K
theorem x_cv0 {w' : va_W} {stk rest : List Value} {a : Array Value} (hr : ∀ (H : Heap) (locs : List Loc) (ls : Array Slot), va_P D vwCl w H → va_D (va_A w0 s.heap.size) w → va_S (va_A w0 s.heap.size) s.heap H locs → ls.size = n → va_Run p l e R s m args below meth c H locs k j 0 0 (F0 m pc ls stk) rest (QV D tys w w' H.size a) (va_A w H.size)) (K : XW p l e R s m args below meth c D w0 n Q w' k j (pc + 3) lv rest) : XW p l e R s m args below meth c D w0 n Q w k j pc lv stk := x_cv hr K
end XR2
theorem va_D.perm {A : Nat → Prop} {w w' : va_W} (hp : w'.Perm w) (h : va_D A w) : va_D A w' := by
  have nd : ∀ {l : va_W}, va_D A l ↔ (l.map Prod.fst).Nodup ∧ ∀ q ∈ l, A q.1 := by
    intro l
    constructor
    · intro h
      refine ⟨List.nodup_iff_pairwise_ne.mpr (List.pairwise_iff_getElem.mpr fun i j hi hj hij he => ?_), fun q hq => ?_⟩
      · have hi' : i < l.length := by simpa using hi
        have hj' : j < l.length := by simpa using hj
        have := h.1 i j l[i] l[j] (List.getElem?_eq_getElem hi') (List.getElem?_eq_getElem hj') (by simpa using he)
        omega
      · obtain ⟨i, hi⟩ := List.getElem?_of_mem hq
        exact h.2 i q hi
    · intro h
      have hn := List.pairwise_iff_getElem.mp (List.nodup_iff_pairwise_ne.mp h.1)
      refine ⟨fun i j p q hi hj hpq => ?_, fun k q hk => h.2 q (List.mem_of_getElem? hk)⟩
      obtain ⟨hi1, hi2⟩ := List.getElem?_eq_some_iff.mp hi
      obtain ⟨hj1, hj2⟩ := List.getElem?_eq_some_iff.mp hj
      rcases Nat.lt_trichotomy i j with g | g | g
      · have h3 := hn i j (by simpa using hi1) (by simpa using hj1) g
        rw [List.getElem_map, List.getElem_map, hi2, hj2] at h3
        exact absurd hpq h3
      · exact g
      · have h3 := hn j i (by simpa using hj1) (by simpa using hi1) g
        rw [List.getElem_map, List.getElem_map, hi2, hj2] at h3
        exact absurd hpq.symm h3
  have h1 := nd.mp h
  exact nd.mpr ⟨(hp.map Prod.fst).nodup_iff.mpr h1.1, fun q hq => h1.2 q (hp.mem_iff.mp hq)⟩
def wE (cI cZ : ClassId) (ad : Nat → Nat) (S : St) (rest : va_W) : va_W :=
  (ad 0, .inr (4, [.int (S 0 0), .ref (ad 14), .ref (ad 21), .ref (ad 1), .int (S 0 4), .ref (ad 2), .ref (ad 3), .ref (ad 4), .ref (ad 5), .ref (ad 6), .int (S 0 10)])) ::
  (ad 1, .inl (cI, 40, .inl (S 1))) ::
  (ad 2, .inl (cZ, 42, .inl (S 2))) ::
  (ad 3, .inl (cI, 42, .inl (S 3))) ::
  (ad 4, .inl (cI, 42, .inl (S 4))) ::
  (ad 5, .inl (cI, 42, .inl (S 5))) ::
  (ad 6, .inl (cI, 168, .inl (S 6))) ::
  (ad 7, .inr (4, [.int (S 7 0), .ref (ad 14), .ref (ad 21), .ref (ad 8), .int (S 7 4), .ref (ad 9), .ref (ad 10), .ref (ad 11), .ref (ad 12), .ref (ad 13), .int (S 7 10)])) ::
  (ad 8, .inl (cI, 40, .inl (S 8))) ::
  (ad 9, .inl (cZ, 42, .inl (S 9))) ::
  (ad 10, .inl (cI, 42, .inl (S 10))) ::
  (ad 11, .inl (cI, 42, .inl (S 11))) ::
  (ad 12, .inl (cI, 42, .inl (S 12))) ::
  (ad 13, .inl (cI, 168, .inl (S 13))) ::
  (ad 14, .inr (2, [.ref (ad 15), .ref (ad 16), .ref (ad 17), .ref (ad 18), .ref (ad 19), .ref (ad 20), .int (S 14 6)])) ::
  (ad 15, .inl (cI, 40, .inl (S 15))) ::
  (ad 16, .inl (cI, 40, .inl (S 16))) ::
  (ad 17, .inl (cI, 40, .inl (S 17))) ::
  (ad 18, .inl (cI, 40, .inl (S 18))) ::
  (ad 19, .inl (cI, 40, .inl (S 19))) ::
  (ad 20, .inl (cI, 40, .inl (S 20))) ::
  (ad 21, .inr (0, [.ref (ad 22), .ref (ad 23)])) ::
  (ad 22, .inl (cI, 3, .inl (S 22))) ::
  (ad 23, .inl (cI, 3, .inl (S 23))) ::
  (ad 24, .inr (3, [.ref (ad 25), .ref (ad 26)])) ::
  (ad 25, .inl (cI, 126, .inl (S 25))) ::
  (ad 26, .inl (cZ, 42, .inl (S 26))) ::
  (ad 27, .inr (1, [.ref (ad 28), .ref (ad 29), .ref (ad 30), .ref (ad 31), .int (S 27 4)])) ::
  (ad 28, .inl (cI, 20, .inl (S 28))) ::
  (ad 29, .inl (cI, 20, .inl (S 29))) ::
  (ad 30, .inl (cI, 20, .inl (S 30))) ::
  (ad 31, .inl (cI, 20, .inl (S 31))) :: rest
theorem wE_f0_0 (cI cZ : ClassId) (ad : Nat → Nat) (S : St) (rest : va_W) (v : Int32) : (wE cI cZ ad S rest).set 0 (ad 0, .inr (4, ([.int (S 0 0), .ref (ad 14), .ref (ad 21), .ref (ad 1), .int (S 0 4), .ref (ad 2), .ref (ad 3), .ref (ad 4), .ref (ad 5), .ref (ad 6), .int (S 0 10)] : List Value).set 0 (.int v))) = wE cI cZ ad (up S 0 (upd (S 0) 0 v)) rest := rfl
theorem wE_f0_4 (cI cZ : ClassId) (ad : Nat → Nat) (S : St) (rest : va_W) (v : Int32) : (wE cI cZ ad S rest).set 0 (ad 0, .inr (4, ([.int (S 0 0), .ref (ad 14), .ref (ad 21), .ref (ad 1), .int (S 0 4), .ref (ad 2), .ref (ad 3), .ref (ad 4), .ref (ad 5), .ref (ad 6), .int (S 0 10)] : List Value).set 4 (.int v))) = wE cI cZ ad (up S 0 (upd (S 0) 4 v)) rest := rfl
theorem wE_f0_10 (cI cZ : ClassId) (ad : Nat → Nat) (S : St) (rest : va_W) (v : Int32) : (wE cI cZ ad S rest).set 0 (ad 0, .inr (4, ([.int (S 0 0), .ref (ad 14), .ref (ad 21), .ref (ad 1), .int (S 0 4), .ref (ad 2), .ref (ad 3), .ref (ad 4), .ref (ad 5), .ref (ad 6), .int (S 0 10)] : List Value).set 10 (.int v))) = wE cI cZ ad (up S 0 (upd (S 0) 10 v)) rest := rfl
theorem wE_s1 (cI cZ : ClassId) (ad : Nat → Nat) (S : St) (rest : va_W) (g : Nat → Int32) : (wE cI cZ ad S rest).set 1 (ad 1, .inl (cI, 40, .inl g)) = wE cI cZ ad (up S 1 g) rest := rfl
theorem wE_s2 (cI cZ : ClassId) (ad : Nat → Nat) (S : St) (rest : va_W) (g : Nat → Int32) : (wE cI cZ ad S rest).set 2 (ad 2, .inl (cZ, 42, .inl g)) = wE cI cZ ad (up S 2 g) rest := rfl
theorem wE_s3 (cI cZ : ClassId) (ad : Nat → Nat) (S : St) (rest : va_W) (g : Nat → Int32) : (wE cI cZ ad S rest).set 3 (ad 3, .inl (cI, 42, .inl g)) = wE cI cZ ad (up S 3 g) rest := rfl
theorem wE_s4 (cI cZ : ClassId) (ad : Nat → Nat) (S : St) (rest : va_W) (g : Nat → Int32) : (wE cI cZ ad S rest).set 4 (ad 4, .inl (cI, 42, .inl g)) = wE cI cZ ad (up S 4 g) rest := rfl
theorem wE_s5 (cI cZ : ClassId) (ad : Nat → Nat) (S : St) (rest : va_W) (g : Nat → Int32) : (wE cI cZ ad S rest).set 5 (ad 5, .inl (cI, 42, .inl g)) = wE cI cZ ad (up S 5 g) rest := rfl
theorem wE_s6 (cI cZ : ClassId) (ad : Nat → Nat) (S : St) (rest : va_W) (g : Nat → Int32) : (wE cI cZ ad S rest).set 6 (ad 6, .inl (cI, 168, .inl g)) = wE cI cZ ad (up S 6 g) rest := rfl
theorem wE_f7_0 (cI cZ : ClassId) (ad : Nat → Nat) (S : St) (rest : va_W) (v : Int32) : (wE cI cZ ad S rest).set 7 (ad 7, .inr (4, ([.int (S 7 0), .ref (ad 14), .ref (ad 21), .ref (ad 8), .int (S 7 4), .ref (ad 9), .ref (ad 10), .ref (ad 11), .ref (ad 12), .ref (ad 13), .int (S 7 10)] : List Value).set 0 (.int v))) = wE cI cZ ad (up S 7 (upd (S 7) 0 v)) rest := rfl
theorem wE_f7_4 (cI cZ : ClassId) (ad : Nat → Nat) (S : St) (rest : va_W) (v : Int32) : (wE cI cZ ad S rest).set 7 (ad 7, .inr (4, ([.int (S 7 0), .ref (ad 14), .ref (ad 21), .ref (ad 8), .int (S 7 4), .ref (ad 9), .ref (ad 10), .ref (ad 11), .ref (ad 12), .ref (ad 13), .int (S 7 10)] : List Value).set 4 (.int v))) = wE cI cZ ad (up S 7 (upd (S 7) 4 v)) rest := rfl
theorem wE_f7_10 (cI cZ : ClassId) (ad : Nat → Nat) (S : St) (rest : va_W) (v : Int32) : (wE cI cZ ad S rest).set 7 (ad 7, .inr (4, ([.int (S 7 0), .ref (ad 14), .ref (ad 21), .ref (ad 8), .int (S 7 4), .ref (ad 9), .ref (ad 10), .ref (ad 11), .ref (ad 12), .ref (ad 13), .int (S 7 10)] : List Value).set 10 (.int v))) = wE cI cZ ad (up S 7 (upd (S 7) 10 v)) rest := rfl
theorem wE_s8 (cI cZ : ClassId) (ad : Nat → Nat) (S : St) (rest : va_W) (g : Nat → Int32) : (wE cI cZ ad S rest).set 8 (ad 8, .inl (cI, 40, .inl g)) = wE cI cZ ad (up S 8 g) rest := rfl
theorem wE_s9 (cI cZ : ClassId) (ad : Nat → Nat) (S : St) (rest : va_W) (g : Nat → Int32) : (wE cI cZ ad S rest).set 9 (ad 9, .inl (cZ, 42, .inl g)) = wE cI cZ ad (up S 9 g) rest := rfl
theorem wE_s10 (cI cZ : ClassId) (ad : Nat → Nat) (S : St) (rest : va_W) (g : Nat → Int32) : (wE cI cZ ad S rest).set 10 (ad 10, .inl (cI, 42, .inl g)) = wE cI cZ ad (up S 10 g) rest := rfl
theorem wE_s11 (cI cZ : ClassId) (ad : Nat → Nat) (S : St) (rest : va_W) (g : Nat → Int32) : (wE cI cZ ad S rest).set 11 (ad 11, .inl (cI, 42, .inl g)) = wE cI cZ ad (up S 11 g) rest := rfl
theorem wE_s12 (cI cZ : ClassId) (ad : Nat → Nat) (S : St) (rest : va_W) (g : Nat → Int32) : (wE cI cZ ad S rest).set 12 (ad 12, .inl (cI, 42, .inl g)) = wE cI cZ ad (up S 12 g) rest := rfl
theorem wE_s13 (cI cZ : ClassId) (ad : Nat → Nat) (S : St) (rest : va_W) (g : Nat → Int32) : (wE cI cZ ad S rest).set 13 (ad 13, .inl (cI, 168, .inl g)) = wE cI cZ ad (up S 13 g) rest := rfl
theorem wE_f14_6 (cI cZ : ClassId) (ad : Nat → Nat) (S : St) (rest : va_W) (v : Int32) : (wE cI cZ ad S rest).set 14 (ad 14, .inr (2, ([.ref (ad 15), .ref (ad 16), .ref (ad 17), .ref (ad 18), .ref (ad 19), .ref (ad 20), .int (S 14 6)] : List Value).set 6 (.int v))) = wE cI cZ ad (up S 14 (upd (S 14) 6 v)) rest := rfl
theorem wE_s15 (cI cZ : ClassId) (ad : Nat → Nat) (S : St) (rest : va_W) (g : Nat → Int32) : (wE cI cZ ad S rest).set 15 (ad 15, .inl (cI, 40, .inl g)) = wE cI cZ ad (up S 15 g) rest := rfl
theorem wE_s16 (cI cZ : ClassId) (ad : Nat → Nat) (S : St) (rest : va_W) (g : Nat → Int32) : (wE cI cZ ad S rest).set 16 (ad 16, .inl (cI, 40, .inl g)) = wE cI cZ ad (up S 16 g) rest := rfl
theorem wE_s17 (cI cZ : ClassId) (ad : Nat → Nat) (S : St) (rest : va_W) (g : Nat → Int32) : (wE cI cZ ad S rest).set 17 (ad 17, .inl (cI, 40, .inl g)) = wE cI cZ ad (up S 17 g) rest := rfl
theorem wE_s18 (cI cZ : ClassId) (ad : Nat → Nat) (S : St) (rest : va_W) (g : Nat → Int32) : (wE cI cZ ad S rest).set 18 (ad 18, .inl (cI, 40, .inl g)) = wE cI cZ ad (up S 18 g) rest := rfl
theorem wE_s19 (cI cZ : ClassId) (ad : Nat → Nat) (S : St) (rest : va_W) (g : Nat → Int32) : (wE cI cZ ad S rest).set 19 (ad 19, .inl (cI, 40, .inl g)) = wE cI cZ ad (up S 19 g) rest := rfl
theorem wE_s20 (cI cZ : ClassId) (ad : Nat → Nat) (S : St) (rest : va_W) (g : Nat → Int32) : (wE cI cZ ad S rest).set 20 (ad 20, .inl (cI, 40, .inl g)) = wE cI cZ ad (up S 20 g) rest := rfl
theorem wE_s22 (cI cZ : ClassId) (ad : Nat → Nat) (S : St) (rest : va_W) (g : Nat → Int32) : (wE cI cZ ad S rest).set 22 (ad 22, .inl (cI, 3, .inl g)) = wE cI cZ ad (up S 22 g) rest := rfl
theorem wE_s23 (cI cZ : ClassId) (ad : Nat → Nat) (S : St) (rest : va_W) (g : Nat → Int32) : (wE cI cZ ad S rest).set 23 (ad 23, .inl (cI, 3, .inl g)) = wE cI cZ ad (up S 23 g) rest := rfl
theorem wE_s25 (cI cZ : ClassId) (ad : Nat → Nat) (S : St) (rest : va_W) (g : Nat → Int32) : (wE cI cZ ad S rest).set 25 (ad 25, .inl (cI, 126, .inl g)) = wE cI cZ ad (up S 25 g) rest := rfl
theorem wE_s26 (cI cZ : ClassId) (ad : Nat → Nat) (S : St) (rest : va_W) (g : Nat → Int32) : (wE cI cZ ad S rest).set 26 (ad 26, .inl (cZ, 42, .inl g)) = wE cI cZ ad (up S 26 g) rest := rfl
theorem wE_f27_4 (cI cZ : ClassId) (ad : Nat → Nat) (S : St) (rest : va_W) (v : Int32) : (wE cI cZ ad S rest).set 27 (ad 27, .inr (1, ([.ref (ad 28), .ref (ad 29), .ref (ad 30), .ref (ad 31), .int (S 27 4)] : List Value).set 4 (.int v))) = wE cI cZ ad (up S 27 (upd (S 27) 4 v)) rest := rfl
theorem wE_s28 (cI cZ : ClassId) (ad : Nat → Nat) (S : St) (rest : va_W) (g : Nat → Int32) : (wE cI cZ ad S rest).set 28 (ad 28, .inl (cI, 20, .inl g)) = wE cI cZ ad (up S 28 g) rest := rfl
theorem wE_s29 (cI cZ : ClassId) (ad : Nat → Nat) (S : St) (rest : va_W) (g : Nat → Int32) : (wE cI cZ ad S rest).set 29 (ad 29, .inl (cI, 20, .inl g)) = wE cI cZ ad (up S 29 g) rest := rfl
theorem wE_s30 (cI cZ : ClassId) (ad : Nat → Nat) (S : St) (rest : va_W) (g : Nat → Int32) : (wE cI cZ ad S rest).set 30 (ad 30, .inl (cI, 20, .inl g)) = wE cI cZ ad (up S 30 g) rest := rfl
theorem wE_s31 (cI cZ : ClassId) (ad : Nat → Nat) (S : St) (rest : va_W) (g : Nat → Int32) : (wE cI cZ ad S rest).set 31 (ad 31, .inl (cI, 20, .inl g)) = wE cI cZ ad (up S 31 g) rest := rfl
/-! the two trees changed for each other -/
def sw (k : Nat) : Nat := bif Nat.blt k 7 then k + 7 else bif Nat.blt k 14 then k - 7 else k
def swA (ad : Nat → Nat) : Nat → Nat := fun k => ad (sw k)
def swS (S : St) : St := fun k => S (sw k)
theorem wE_sw {D : va_G} {cI cZ : ClassId} {ad : Nat → Nat} {S : St} {rest : va_W} : ∀ H : Heap, va_P D vwCl (wE cI cZ ad S rest) H → va_P D vwCl (wE cI cZ (swA ad) (swS S) rest) H := by
  intro H h k q hq
  have key : ∀ x ∈ wE cI cZ (swA ad) (swS S) rest, x ∈ wE cI cZ ad S rest := by
    intro x hx
    show x ∈ (wE cI cZ ad S []).take 7 ++ (((wE cI cZ ad S []).drop 7).take 7 ++ ((wE cI cZ ad S []).drop 14 ++ rest))
    have hx : x ∈ ((wE cI cZ ad S []).drop 7).take 7 ++ ((wE cI cZ ad S []).take 7 ++ ((wE cI cZ ad S []).drop 14 ++ rest)) := hx
    rcases List.mem_append.mp hx with h1 | h1
    · exact List.mem_append_right _ (List.mem_append_left _ h1)
    · rcases List.mem_append.mp h1 with h2 | h2
      · exact List.mem_append_left _ h2
      · exact List.mem_append_right _ (List.mem_append_right _ h2)
  obtain ⟨i, hi⟩ := List.getElem?_of_mem (key q (List.mem_of_getElem? hq))
  exact h i q hi
theorem wE_swD {A : Nat → Prop} {cI cZ : ClassId} {ad : Nat → Nat} {S : St} {rest : va_W} (h : va_D A (wE cI cZ ad S rest)) : va_D A (wE cI cZ (swA ad) (swS S) rest) := by
  have h1 : va_D A ((wE cI cZ ad S []).take 7 ++ (((wE cI cZ ad S []).drop 7).take 7 ++ ((wE cI cZ ad S []).drop 14 ++ rest))) := h
  show va_D A (((wE cI cZ ad S []).drop 7).take 7 ++ ((wE cI cZ ad S []).take 7 ++ ((wE cI cZ ad S []).drop 14 ++ rest)))
  exact va_D.perm (List.perm_append_comm_assoc _ _ _) h1
theorem wE_unsw {D : va_G} {cI cZ : ClassId} {ad : Nat → Nat} {S : St} {rest : va_W} : ∀ H : Heap, va_P D vwCl (wE cI cZ (swA ad) S rest) H → va_P D vwCl (wE cI cZ ad (swS S) rest) H := fun H h => wE_sw (ad := swA ad) H h
theorem wE_unswD {A : Nat → Prop} {cI cZ : ClassId} {ad : Nat → Nat} {S : St} {rest : va_W} (h : va_D A (wE cI cZ (swA ad) S rest)) : va_D A (wE cI cZ ad (swS S) rest) := wE_swD (ad := swA ad) h
theorem wE_unsw0 {D : va_G} {cI cZ : ClassId} {ad : Nat → Nat} {S : St} {rest : va_W} : ∀ H : Heap, va_P D vwCl (wE cI cZ (swA ad) (swS S) rest) H → va_P D vwCl (wE cI cZ ad S rest) H := fun H h => wE_sw (ad := swA ad) (S := swS S) H h
theorem wE_unsw0D {A : Nat → Prop} {cI cZ : ClassId} {ad : Nat → Nat} {S : St} {rest : va_W} (h : va_D A (wE cI cZ (swA ad) (swS S) rest)) : va_D A (wE cI cZ ad S rest) := wE_swD (ad := swA ad) (S := swS S) h
