/-! THROWS: what a method that throws wants of its start, and how it ends -/
def strL : List (Nat × String) := [(63, "a change was made"), (102, "the class does not allow the attribute"), (114, "the parent is the entry or below it"), (124, "there is an entry below it"), (171, "place is below 0"), (195, "there is none of this number"), (197, "there is no such entry in the tree"), (201, "an argument is out of range"), (204, "there are 40 changes"), (206, "there are 20 filters"), (208, "the root and the lost one stay"), (210, "a label like it is there under the parent")]
theorem st_mem (n : Nat) {q : Nat × String} (h : strL[n]? = some q) : q ∈ strL := List.mem_of_getElem? h
def exN : Nat → String
  | 0 => "java/lang/IndexOutOfBoundsException"
  | 1 => "java/lang/IllegalArgumentException"
  | _ => "java/lang/IllegalStateException"
def deN : Nat → String
  | 0 => "java/lang/RuntimeException"
  | 1 => "java/lang/Exception"
  | _ => Bundle.tN
def XS (A : Nat → Prop) (U : State) (H : Heap) : Prop := vx_Zq Bundle.tN "UNASSIGNED_STACK" Bundle.steD A U H ∧ vx_Zq Bundle.tN "SUPPRESSED_SENTINEL" Bundle.listD A U H ∧ (∀ q ∈ strL, ∃ sa, vk_R RX5 q.1 q.2 sa U) ∧ (∀ k, va_Nw (.castable (exN k) (exN k)) U) ∧ ∀ k, va_Nw (.declares (Bundle.initS (deN k))) U
theorem XS.warm {A : Nat → Prop} {u U : State} {H : Heap} (hW : u.WarmedH U.vm) (h : XS A u H) : XS A U H := ⟨vx_Zq.moved hW.alike h.1, vx_Zq.moved hW.alike h.2.1, fun q hq => (h.2.2.1 q hq).imp fun _ hs => vk_R.warm hW hs, fun k => va_Nw.warmC hW (h.2.2.2.1 k), fun k => va_Nw.warmD hW (h.2.2.2.2 k)⟩
theorem XS.same {A : Nat → Prop} {u U : State} {H : Heap} (hv : u.vm = U.vm) (h : XS A u H) : XS A U H := by
  have hvm : u.vm.Alike U.vm := hv ▸ Vm.Alike.refl u.vm
  exact ⟨vx_Zq.moved hvm h.1, vx_Zq.moved hvm h.2.1, fun q hq => (h.2.2.1 q hq).imp fun _ hs => vk_R.same hv.symm hs, fun k => va_Nw.same rfl hv (h.2.2.2.1 k), fun k => va_Nw.same rfl hv (h.2.2.2.2 k)⟩
theorem XS.at {A B : Nat → Prop} {U : State} {H H1 : Heap} (h : XS A U H) (hq : ∀ a : Nat, a < H.size → ¬ A a → H1[a]? = H[a]?) (hAB : ∀ q, B q → A q) : XS B U H1 := ⟨vx_Zq.narrow (vx_Zq.kept h.1 hq) hAB, vx_Zq.narrow (vx_Zq.kept h.2.1 hq) hAB, h.2.2⟩
def PX (D : va_G) (tys : List (ClassId × FieldType)) (av : List Value) (w : va_W) (sz : Nat) : Array Value → State → Prop := va_Pc av (fun U => U.heap.size = sz ∧ va_P D vwCl w U.heap ∧ va_K D vwCl tys U ∧ va_D (fun _ => True) w ∧ NW U ∧ XS (va_A w sz) U U.heap)
theorem PX.blind {D : va_G} {tys : List (ClassId × FieldType)} {av : List Value} {w : va_W} {sz : Nat} : FrameBlind (PX D tys av w sz) := fun a U g mk q => by
  obtain ⟨h1, h2, h3, h4, h5, h6, h7⟩ := q
  exact ⟨h1, h2, h3, va_K.moved (u := U) (U := U.calling g mk a) (Vm.Alike.refl U.vm) h4, h5, NW.same (u := U) (U := U.calling g mk a) rfl h6, XS.same (u := U) (U := U.calling g mk a) rfl h7⟩
/-- the end with an exception of the kind E -/
def XX (D : va_G) (tys : List (ClassId × FieldType)) (w w' : va_W) (sz : Nat) (E : String) : String → State → State → Prop := fun E' st t => E' = E ∧ BE D tys (va_A w sz) w' t ∧ va_F (va_A w sz) st t
def nQ : Array Value → State → Outcome → State → Prop := fun _ _ _ _ => False
def XT (l : Launch) (s : State) (c : Code) (w0 : va_W) : Prop := l.stackTraces = false ∧ (∀ x ∈ c.exceptionTable.toList, False) ∧ XS (va_A w0 s.heap.size) s s.heap
section XR3
variable {p : Program} {l : Launch} {e : Env} {R : Room} {s : State} {m : MethodId} {args : Array Value} {below : List Frame} {meth : Method} {c : Code} {cc : ByteArray} {n : Nat} {ret : Option FieldType} {own : String} {Ts : List Cond} {D : va_G} {tys : List (ClassId × FieldType)} {w0 : va_W} {Q : State → Prop} {w : va_W} {k j pc : Nat} {lv : List (Nat × Value)} {st : List Value}
theorem x_preX {H : Heap} {locs : List Loc} {av : List Value} (hK : va_K D vwCl tys s) (hN : NW s) (hX : XS (va_A w0 s.heap.size) s s.heap) (hP : va_P D vwCl w H) (hD : va_D (va_A w0 s.heap.size) w) (hS : va_S (va_A w0 s.heap.size) s.heap H locs) : ∀ U : State, U.heap = H → s.WarmedH U.vm → PX D tys av w H.size av.toArray U :=
  fun U hU hW => ⟨rfl, by rw [hU], by rw [hU]; exact hP, va_K.moved hW.alike hK, hD.weaken (fun _ _ _ _ => trivial), NW.warm hW hN, by rw [hU]; exact XS.warm hW (hX.at hS.2.1 (x_foot hD hS))⟩
/-- a callee that throws -/
def XRun (p : Program) (l : Launch) (e : Env) (R : Room) (s : State) (m : MethodId) (args : Array Value) (below : List Frame) (meth : Method) (c : Code) (D : va_G) (tys : List (ClassId × FieldType)) (w0 : va_W) (n : Nat) (w w' : va_W) (k j pc : Nat) (E : String) (stk rest : List Value) : Prop :=
  ∀ (H : Heap) (locs : List Loc) (ls : Array Slot), va_P D vwCl w H → va_D (va_A w0 s.heap.size) w → va_S (va_A w0 s.heap.size) s.heap H locs → ls.size = n → vx_Run p l e R s m args below meth c H locs k j 1 6 (F0 m pc ls stk) rest (fun _ _ _ => False) (XX D tys w w' H.size E) (va_A w H.size)
/-- .. and what is behind it: the exception's cell, and the world that it leaves -/
theorem x_thrown {E : String} {w' : va_W} {stk rest : List Value} (hr : XRun p l e R s m args below meth c D tys w0 n w w' k j pc E stk rest)
    (K : ∀ (H1 : Heap) (locs1 : List Loc) (ls : Array Slot) (q : Addr) (ce : Cell), va_P D vwCl w' H1 → va_D (va_A w0 s.heap.size) w' → va_S (va_A w0 s.heap.size) s.heap H1 locs1 → lv_has ls n lv → H1[q]? = some ce → ce.vm = .none → s.vm.findClass E = some ce.cls → vx_W p l e R s m args below meth c H1 locs1 (k + 1) (j + 6) Q (F0 m pc ls rest) q) : XW p l e R s m args below meth c D w0 n Q w k j pc lv stk := by
  intro H locs ls hP hD hS hl T hT X
  rcases hr H locs ls hP hD hS hl.1 T hT X with ⟨v, st₀, t, T', L, h0, X', hL, e1, e2, hF, st1⟩ | ⟨q, st₀, t, T', L, E', ce, h0, X', hL, e1, e2, ⟨hE, hB, hF⟩, hce, hcv, hcl, st1⟩
  · exact hF.elim
  · subst hE
    obtain ⟨hz, hk, hS1⟩ := vx_keep (A1 := va_A w H.size) h0 e1 hS (fun q _ h => x_foot hD hS q h) (x_foot hD hS) hL hF
    obtain ⟨t2, a1, b1⟩ := K T'.heap (locs ++ L) ls q ce (e1 ▸ hB.1) (x_dback hD hS hB.2.2) hS1 hl (e1 ▸ hce) hcv hcl T' rfl X'
    exact ⟨t2, st1.trans a1, b1⟩
/-- it goes on to the caller -/
theorem x_cx (C : XC p R s m args meth c cc n ret own Ts D tys) (T : XT l s c w0) {E : String} {w' : va_W} {stk rest : List Value} (hr : XRun p l e R s m args below meth c D tys w0 n w w' 0 0 pc E stk rest) : XW p l e R s m args below meth c D w0 n (vx_MQ below nQ (XX D tys w0 w' s.heap.size E) args s 1 6 (va_A w0 s.heap.size)) w 0 0 pc lv stk :=
  x_thrown hr (fun H1 locs1 ls q ce hP hD hS hl hce hcv hcl => vx_out (fun x hx => (T.2.1 x hx).elim) C.2.2.2.2.2.2.2.2 hce hcv hcl (fun t ht hA => ⟨rfl, ⟨by rw [ht]; exact hP, va_K.moved hA C.2.2.2.2.2.1, hD⟩, hS.F ht⟩) hS.2.2 (Nat.le_refl _) (Nat.le_refl _))
theorem x_runVX (C : XC p R s m args meth c cc n ret own Ts D tys) (hX : XS (va_A w0 s.heap.size) s s.heap) {y : MethodName} {bytes : ByteArray} {maxL na index : Nat} {rt : Option FieldType} {ws : List Cond} {rm : Room} {Cn E : String} {w' : va_W} {As rest : List Value} {b : Nat} (hM : ∀ sz, vx_Met l y ws rm (PX D tys (.ref b :: As) w sz) nQ (XX D tys w w' sz E) 1 6 (va_A w sz)) (cw : CallW R s args own Cn index y bytes maxL rt ws rm 1 6 na) (q0 : Nat) {ci N : Nat} {T : u_T} {fs : List Value} (hw : w[q0]? = some (b, .inr (ci, fs))) (hc : vwCl[ci]? = some (Cn, T, N)) (hn : As.length = na) (hst : (rest.map fun v => v.category).sum ≤ 8) (hd : decode cc pc = .ok (.invokevirtual index, 3)) (hf : k + 1 ≤ R.cells ∧ j + 6 ≤ R.slots) :
    XRun p l e R s m args below meth c D tys w0 n w w' k j pc E (As.reverse ++ .ref b :: rest) rest :=
  fun H locs ls hP hD hS hl => vx_runV ⟨C.1, C.2.1, C.2.2.1, C.2.2.2.1, C.2.2.2.2.1⟩ (hM H.size) cw ⟨PX.blind, va_recv C.2.2.2.2.2.1 hP hc hw, x_preX C.2.2.2.2.2.1 C.2.2.2.2.2.2.1 hX hP hD hS⟩ rfl hn hl rfl (lv_room hst) hd hf
theorem x_runSX (C : XC p R s m args meth c cc n ret own Ts D tys) (hX : XS (va_A w0 s.heap.size) s s.heap) {y : MethodName} {bytes : ByteArray} {maxL na index : Nat} {rt : Option FieldType} {ws : List Cond} {rm : Room} {E : String} {w' : va_W} {As rest : List Value} (hM : ∀ sz, vx_Met l y ws rm (PX D tys As w sz) nQ (XX D tys w w' sz E) 1 6 (va_A w sz)) (cw : CallB R s args own index y bytes maxL rt ws rm 1 6 na ∧ (Cond.static y).before args s = true) (hn : As.length = na) (hst : (rest.map fun v => v.category).sum ≤ 8) (hd : decode cc pc = .ok (.invokestatic index, 3)) (hf : k + 1 ≤ R.cells ∧ j + 6 ≤ R.slots) :
    XRun p l e R s m args below meth c D tys w0 n w w' k j pc E (As.reverse ++ rest) rest :=
  fun H locs ls hP hD hS hl => vx_runS ⟨C.1, C.2.1, C.2.2.1, C.2.2.2.1, C.2.2.2.2.1⟩ (hM H.size) cw ⟨PX.blind, x_preX C.2.2.2.2.2.1 C.2.2.2.2.2.2.1 hX hP hD hS⟩ rfl hn hl rfl (lv_room hst) hd hf
/-- throw new E("a text") -/
theorem x_throw (C : XC p R s m args meth c cc n ret own Ts D tys) (T : XT l s c w0) {ik is ic kk : Nat} {tx : String} (hown : own = RX5) (hstr : (is, tx) ∈ strL) (hk : Cond.classLink own ik (exN kk) ∈ Ts) (hini : Cond.initialized (exN kk) ∈ Ts) (hat1 : ∀ z ∈ (vx_atS own ic (exN kk) ["java/lang/RuntimeException", "java/lang/Exception"]).filter goodWord, z ∈ Ts) (hat2 : ∀ z ∈ (vx_atS own ic (exN kk) ["java/lang/RuntimeException", "java/lang/Exception"]).filter (fun z => !goodWord z), z ∈ [Cond.castable (exN kk) (exN kk), Cond.declares (Bundle.initS (deN 0)), Cond.declares (Bundle.initS (deN 1)), Cond.declares (Bundle.initS (deN 2))])
    (hgood : ∀ z ∈ Cond.classLink own ik (exN kk) :: Cond.initialized (exN kk) :: vx_atS own ic (exN kk) ["java/lang/RuntimeException", "java/lang/Exception"], vx_ot z = true) (hfit : Bundle.fit (exN kk) = true)
    (d0 : decode cc pc = .ok (.new ik, 3)) (d3 : decode cc (pc + 3) = .ok (.dup, 1)) (d4 : decode cc (pc + 4) = .ok (.ldc is, 2)) (d6 : decode cc (pc + 6) = .ok (.invokespecial ic, 3)) (d9 : decode cc (pc + 9) = .ok (.athrow, 1))
    (hRf : 5 < R.frames) (hRl : (st.map fun v => v.category).sum + 82 ≤ R.locals) (hRc : 1 ≤ R.cells) (hRs : 6 ≤ R.slots) :
    XW p l e R s m args below meth c D w0 n (vx_MQ below nQ (XX D tys w0 w s.heap.size (exN kk)) args s 1 6 (va_A w0 s.heap.size)) w 0 0 pc lv st := by
  intro H locs ls hP hD hS hl
  obtain ⟨sa, hsa⟩ := T.2.2.2.2.1 _ hstr
  subst hown
  refine vx_throwS C.1 C.2.1 T.1 C.2.2.2.1 hfit (by decide +kernel) (C.2.2.2.2.1 _ hk) (C.2.2.2.2.1 _ hini) hsa (vx_hat (fun z hz => C.2.2.2.2.1 _ (hat1 z hz)) hat2 (vx_c (va_Nw.use rfl (T.2.2.2.2.2.1 kk)) (vx_c (va_Nw.use rfl (T.2.2.2.2.2.2 0)) (vx_c (va_Nw.use rfl (T.2.2.2.2.2.2 1)) (vx_c (va_Nw.use rfl (T.2.2.2.2.2.2 2)) vx_n))))) hgood T.2.2.1 T.2.2.2.1 hS (by rw [C.2.2.1]; exact hl.1) d0 d3 d4 d6 d9 (fun x hx => (T.2.1 x hx).elim) hRf hRl hRc hRs C.2.2.2.2.2.2.2.2 (fun t hA hz hk => ?_) hS.2.2 (Nat.le_refl _) (Nat.le_refl _)
  refine ⟨rfl, ⟨hP.kept (fun k q hq => hk q.1 ((hP k q hq).lt)), va_K.moved hA C.2.2.2.2.2.1, hD⟩, Nat.le_trans hS.1 hz, fun q h1 h2 => ?_⟩
  rw [hk q (Nat.lt_of_lt_of_le h1 hS.1)]
  exact hS.2.1 q h1 h2
/-- from one end to a weaker one -/
theorem x_mono {Q' : State → Prop} (h : ∀ t, Q t → Q' t) (K : XW p l e R s m args below meth c D w0 n Q w k j pc lv st) : XW p l e R s m args below meth c D w0 n Q' w k j pc lv st :=
  fun H locs ls hP hD hS hl T hT X => by
    obtain ⟨t, a, b⟩ := K H locs ls hP hD hS hl T hT X
    exact ⟨t, a, h t b⟩
theorem x_rret (C : XC p R s m args meth c cc n (some (.object "EntryMasters$Tree")) own Ts D tys) {v : Nat} (hd : decode cc pc = .ok (.areturn, 1)) : XW p l e R s m args below meth c D w0 n (MQ below (QR D tys w0 w s.heap.size v) args s k j (va_A w0 s.heap.size)) w k j pc lv (.ref v :: []) :=
  fun H locs ls hP hD hS hl => W.aret (v := .ref v) C.1 C.2.1 C.2.2.2.2.2.2.2.1 (Or.inl ⟨_, rfl⟩) (Or.inr ⟨v, rfl⟩) (fun t ht hW => ⟨⟨(), v, rfl, trivial, rfl, by rw [ht]; exact hP, va_K.moved hW.alike C.2.2.2.2.2.1, hD⟩, hS.F ht⟩) hS.2.2 hd C.2.2.2.2.2.2.2.2
theorem x_cr0 {v : Nat} {w' : va_W} {stk rest : List Value} {a : Array Value} (hr : ∀ (H : Heap) (locs : List Loc) (ls : Array Slot), va_P D vwCl w H → va_D (va_A w0 s.heap.size) w → va_S (va_A w0 s.heap.size) s.heap H locs → ls.size = n → va_Run p l e R s m args below meth c H locs k j 0 0 (F0 m pc ls stk) rest (QR D tys w w' H.size v a) (va_A w H.size)) (K : XW p l e R s m args below meth c D w0 n Q w' k j (pc + 3) lv (.ref v :: rest)) : XW p l e R s m args below meth c D w0 n Q w k j pc lv stk := x_cr hr K
theorem x_lookup (C : XC p R s m args meth c cc n ret own Ts D tys) {dflt off : Int} {ps : Array (Int × Int)} {len t : Nat} {x : Int32} (hd : decode cc pc = .ok (.lookupswitch dflt ps, len)) (hp : (ps.toList.zip (ps.toList.drop 1)).all (fun (a, next) => a.1 < next.1) = true) (ho : Op.lookupswitch.offset ps.toList dflt x.toInt = off) (ht : (pc : Int) + off = (t : Int)) (K : XW p l e R s m args below meth c D w0 n Q w k j t lv st) : XW p l e R s m args below meth c D w0 n Q w k j pc lv (.int x :: st) :=
  fun H locs ls hP hD hS hl => lv_lookup C.1 C.2.1 hd hp ho ht (K H locs ls hP hD hS hl)
end XR3
theorem lk_off {x : Int32} (h1 : ¬ x = 1) (h2 : ¬ x = 2) : Op.lookupswitch.offset (#[((1 : Int), (27 : Int)), (2, 43)] : Array (Int × Int)).toList 55 x.toInt = 55 := by
  have g1 : ¬ (1 : Int) = x.toInt := fun g => h1 (Int32.toInt_inj.mp (by rw [← g]; decide))
  have g2 : ¬ (2 : Int) = x.toInt := fun g => h2 (Int32.toInt_inj.mp (by rw [← g]; decide))
  show (if (1 : Int) = x.toInt then 27 else if (2 : Int) = x.toInt then 43 else 55) = (55 : Int)
  rw [if_neg g1, if_neg g2]
/-- one end or the other, by the code that comes out -/
def QZ (k : Nat) (A : State → Prop) (B : Nat → State → Prop) : State → Prop := match k with
  | 0 => A
  | k + 1 => B k
theorem QZ.mono {k : Nat} {A A' : State → Prop} {B B' : Nat → State → Prop} (h1 : ∀ t, A t → A' t) (h2 : ∀ k t, B k t → B' k t) : ∀ t, QZ k A B t → QZ k A' B' t := by
  cases k with
  | zero => exact h1
  | succ k => exact h2 k
theorem MQ.mono {below : List Frame} {Qc Qc' : Array Value → State → Outcome → State → Prop} {a : Array Value} {s : State} {mc ms : Nat} {free : Addr → Prop} (h : ∀ o t, Qc a s o t → Qc' a s o t) : ∀ t, MQ below Qc a s mc ms free t → MQ below Qc' a s mc ms free t := fun t q => by
  obtain ⟨o, h1, h2, h3, h4⟩ := q
  exact ⟨o, h1, h2, h o t h3, h4⟩
theorem vx_MQ.mono {below : List Frame} {X X' : String → State → State → Prop} {a : Array Value} {s : State} {mc ms : Nat} {free : Addr → Prop} (h : ∀ E t, X E s t → X' E s t) : ∀ t, vx_MQ below nQ X a s mc ms free t → vx_MQ below nQ X' a s mc ms free t := fun t q => by
  obtain ⟨o, h1, h2, h3⟩ := q
  rcases h3 with h3 | ⟨q, e1, E, ce, L, hx, h4⟩
  · exact h3.1.elim
  · exact ⟨o, h1, h2, Or.inr ⟨q, e1, E, ce, L, h E t hx, h4⟩⟩
def WL (D : va_G) (w w' : va_W) : Prop := (∀ H : Heap, va_P D vwCl w H → va_P D vwCl w' H) ∧ ∀ A, va_D A w → va_D A w'
theorem BE.mono {D : va_G} {tys : List (ClassId × FieldType)} {A : Nat → Prop} {w w' : va_W} {t : State} (h : WL D w w') (q : BE D tys A w t) : BE D tys A w' t := ⟨h.1 _ q.1, q.2.1, h.2 _ q.2.2⟩
theorem QI.mono {D : va_G} {tys : List (ClassId × FieldType)} {w0 w w' : va_W} {sz : Nat} {v : Int32} {a : Array Value} {s t : State} {o : Outcome} (h : WL D w w') (q : QI D tys w0 w sz v a s o t) : QI D tys w0 w' sz v a s o t := by
  obtain ⟨⟨r, u, h1, h2, h3⟩, h4⟩ := q
  exact ⟨⟨r, u, h1, h2, h3.mono h⟩, h4⟩
theorem QV.mono {D : va_G} {tys : List (ClassId × FieldType)} {w0 w w' : va_W} {sz : Nat} {a : Array Value} {s t : State} {o : Outcome} (h : WL D w w') (q : QV D tys w0 w sz a s o t) : QV D tys w0 w' sz a s o t := by
  obtain ⟨⟨u, h1, h2, h3⟩, h4⟩ := q
  exact ⟨⟨u, h1, h2, h3.mono h⟩, h4⟩
theorem XX.mono {D : va_G} {tys : List (ClassId × FieldType)} {w0 w w' : va_W} {sz : Nat} {E E' : String} {s t : State} (h : WL D w w') (q : XX D tys w0 w sz E E' s t) : XX D tys w0 w' sz E E' s t := ⟨q.1, q.2.1.mono h, q.2.2⟩
theorem QZI.mono {D : va_G} {tys : List (ClassId × FieldType)} {w0 w w' : va_W} {sz kk mc ms : Nat} {v : Int32} {below : List Frame} {a : Array Value} {s : State} {free : Addr → Prop} (h : WL D w w') : ∀ t, QZ kk (MQ below (QI D tys w0 w sz v) a s 0 0 free) (fun q => vx_MQ below nQ (XX D tys w0 w sz (exN q)) a s mc ms free) t → QZ kk (MQ below (QI D tys w0 w' sz v) a s 0 0 free) (fun q => vx_MQ below nQ (XX D tys w0 w' sz (exN q)) a s mc ms free) t :=
  QZ.mono (MQ.mono fun _ _ q => q.mono h) (fun _ => vx_MQ.mono fun _ _ q => XX.mono h q)
theorem QZV.mono {D : va_G} {tys : List (ClassId × FieldType)} {w0 w w' : va_W} {sz kk mc ms : Nat} {below : List Frame} {a : Array Value} {s : State} {free : Addr → Prop} (h : WL D w w') : ∀ t, QZ kk (MQ below (QV D tys w0 w sz) a s 0 0 free) (fun q => vx_MQ below nQ (XX D tys w0 w sz (exN q)) a s mc ms free) t → QZ kk (MQ below (QV D tys w0 w' sz) a s 0 0 free) (fun q => vx_MQ below nQ (XX D tys w0 w' sz (exN q)) a s mc ms free) t :=
  QZ.mono (MQ.mono fun _ _ q => q.mono h) (fun _ => vx_MQ.mono fun _ _ q => XX.mono h q)
/-- EntryMasters itself: its cell, ahead of the rest; x, y: its two trees -/
def eo (ad : Nat → Nat) (x y : Nat) (rest : va_W) : va_W := (ad 32, .inr (5, [.ref (ad 21), .ref (ad 14), .ref x, .ref y, .ref (ad 24), .ref (ad 27)])) :: rest
/-- the room of a method that throws: by the code that comes out -/
def rmf (F L : Nat) (k : Nat) : Room := { frames := F, cells := (match k with | 0 => 0 | _ + 1 => 1), slots := (match k with | 0 => 0 | _ + 1 => 6), locals := L }
theorem wl_sw {D : va_G} {cI cZ : ClassId} {ad : Nat → Nat} {S : St} {rest : va_W} {x y : Nat} : WL D (wE cI cZ ad S (eo ad x y rest)) (wE cI cZ (swA ad) (swS S) (eo (swA ad) x y rest)) := ⟨fun H h => wE_sw (rest := eo ad x y rest) H h, fun A h => wE_swD (rest := eo ad x y rest) h⟩
theorem wl_unsw {D : va_G} {cI cZ : ClassId} {ad : Nat → Nat} {S : St} {rest : va_W} {x y : Nat} : WL D (wE cI cZ (swA ad) S (eo (swA ad) x y rest)) (wE cI cZ ad (swS S) (eo ad x y rest)) := ⟨fun H h => wE_unsw (rest := eo ad x y rest) H h, fun A h => wE_unswD (rest := eo ad x y rest) h⟩
theorem wl_unsw0 {D : va_G} {cI cZ : ClassId} {ad : Nat → Nat} {S : St} {rest : va_W} {x y : Nat} : WL D (wE cI cZ (swA ad) (swS S) (eo (swA ad) x y rest)) (wE cI cZ ad S (eo ad x y rest)) := ⟨fun H h => wE_unsw0 (rest := eo ad x y rest) H h, fun A h => wE_unsw0D (rest := eo ad x y rest) h⟩
def unz (z : Nat × Int32 × St) : Nat × Int32 × St := (z.1, z.2.1, swS z.2.2)
/-- the contract of a method that throws, out of its body's walk -/
theorem x_metX {l : Launch} (hfl : l.stackTraces = false) {y : MethodName} {ws ws' : List Cond} {rm : Room} {cc : ByteArray} {maxL mc ms : Nat} {ret : Option FieldType} {D : va_G} {tys : List (ClassId × FieldType)} {av : List Value} {w : va_W} {XCf : Nat → String → State → State → Prop} (own : String) (hown : y.cls = own) (hy : plainName y.cls = true) (hw : ws = Cond.code y cc maxL ret :: ws') (hlen : (lg_sl av).length ≤ maxL)
    (body : ∀ p e s m args below meth c, XC p rm s m args meth c cc maxL ret own ws D tys → XT l s c w → XW p l e rm s m args below meth c D w maxL (vx_MQ below nQ (XCf s.heap.size) args s mc ms (va_A w s.heap.size)) w 0 0 0 (lv_args 0 av) []) :
    ∀ sz, vx_Met l y ws rm (PX D tys av w sz) nQ (XCf sz) mc ms (va_A w sz) := by
  intro sz
  subst hown
  refine vx_ofW (cc := cc) (maxL := maxL) (ret := ret) hy hw ?_
  intro p e s m args below meth c s₁ B hml htab hv
  obtain ⟨rfl, hsz, hP, hK, hD0, hN, hX⟩ := hv
  subst hsz
  have hl := lv_entry av (n := maxL) hlen
  rw [lg_entry_eq]
  generalize (lg_sl av ++ List.replicate (maxL - (lg_sl av).length) Slot.unset).toArray = ls at hl ⊢
  exact body p e s m _ below meth c ⟨B.exec, B.bytes, hml, findClass_of_methodNamed B.named, atoms_spec (ws := ws) B.pre, hK, hN, B.returns, B.notSynchronized⟩ ⟨hfl, htab, hX⟩ s.heap [] ls hP hD0.self va_S.rf hl
