/-! CATCHES: the law's own methods, each with a table of handlers -/
def NC (U : State) : Prop := ∀ a b : Nat, a < 3 → b < 3 → a ≠ b → va_Nc (exN a) (exN b) U
def PY (D : va_G) (tys : List (ClassId × FieldType)) (av : List Value) (w : va_W) (sz : Nat) : Array Value → State → Prop := va_Pc av (fun U => U.heap.size = sz ∧ va_P D vwCl w U.heap ∧ va_K D vwCl tys U ∧ va_D (fun _ => True) w ∧ NW U ∧ XS (va_A w sz) U U.heap ∧ NC U)
theorem PY.blind {D : va_G} {tys : List (ClassId × FieldType)} {av : List Value} {w : va_W} {sz : Nat} : FrameBlind (PY D tys av w sz) := fun a U g mk q => by
  obtain ⟨h1, h2, h3, h4, h5, h6, h7, h8⟩ := q
  exact ⟨h1, h2, h3, va_K.moved (u := U) (U := U.calling g mk a) (Vm.Alike.refl U.vm) h4, h5, NW.same (u := U) (U := U.calling g mk a) rfl h6, XS.same (u := U) (U := U.calling g mk a) rfl h7, fun a' b' h1 h2 h3 => va_Nc.moved (u := U) (U := U.calling g mk a) (Vm.Alike.refl U.vm) (h8 a' b' h1 h2 h3)⟩
def XH (l : Launch) (s : State) (c : Code) (w0 : va_W) (hh : List (Nat × Nat × Nat × Nat)) : Prop := l.stackTraces = false ∧ c.exceptionTable.toList = tableOf hh ∧ XS (va_A w0 s.heap.size) s s.heap ∧ NC s
section XR4
variable {p : Program} {l : Launch} {e : Env} {R : Room} {s : State} {m : MethodId} {args : Array Value} {below : List Frame} {meth : Method} {c : Code} {cc : ByteArray} {n : Nat} {ret : Option FieldType} {own : String} {Ts : List Cond} {D : va_G} {tys : List (ClassId × FieldType)} {w0 : va_W} {Q : State → Prop} {w : va_W} {k j pc : Nat} {lv : List (Nat × Value)} {st : List Value}
/-- it is caught here -/
theorem x_catch (C : XC p R s m args meth c cc n ret own Ts D tys) {hh : List (Nat × Nat × Nat × Nat)} (T : XH l s c w0 hh) {kk : Nat} {w' : va_W} {stk rest : List Value} (hr : XRun p l e R s m args below meth c D tys w0 n w w' k j pc (exN kk) stk rest) (pre : List ExceptionTableEntry) (x : ExceptionTableEntry) (suf : List ExceptionTableEntry) (hsplit : tableOf hh = pre ++ x :: suf)
    (hpass : ∀ z ∈ pre, z.catchType ≠ 0 ∧ ∃ nm : String, Cond.classLink own z.catchType nm ∈ Ts ∧ va_Nc (exN kk) nm s) (hx : covers x pc = true) (h0 : x.catchType ≠ 0) (hlink : Cond.classLink own x.catchType (exN kk) ∈ Ts)
    (K : ∀ q : Nat, XW p l e R s m args below meth c D w0 n Q w' (k + 1) (j + 6) x.handlerPc lv [.ref q]) : XW p l e R s m args below meth c D w0 n Q w k j pc lv stk :=
  x_thrown hr (fun H1 locs1 ls q ce hP hD hS hl hce hcv hcl => vx_catch C.2.2.2.1 pre x suf (T.2.1.trans hsplit) (fun z hz => by
    obtain ⟨h1, nm, h2, h3⟩ := hpass z hz
    exact Or.inr ⟨h1, nm, C.2.2.2.2.1 _ h2, h3⟩) hx h0 (C.2.2.2.2.1 _ hlink) (va_Nw.use rfl (T.2.2.1.2.2.2.1 kk)) hce hcv hcl (K q H1 locs1 ls hP hD hS hl))
theorem x_preY {H : Heap} {locs : List Loc} {av : List Value} (hK : va_K D vwCl tys s) (hN : NW s) (hX : XS (va_A w0 s.heap.size) s s.heap) (hC : NC s) (hP : va_P D vwCl w H) (hD : va_D (va_A w0 s.heap.size) w) (hS : va_S (va_A w0 s.heap.size) s.heap H locs) : ∀ U : State, U.heap = H → s.WarmedH U.vm → PY D tys av w H.size av.toArray U :=
  fun U hU hW => ⟨rfl, by rw [hU], by rw [hU]; exact hP, va_K.moved hW.alike hK, hD.weaken (fun _ _ _ _ => trivial), NW.warm hW hN, by rw [hU]; exact XS.warm hW (hX.at hS.2.1 (x_foot hD hS)), fun a b h1 h2 h3 => va_Nc.moved hW.alike (hC a b h1 h2 h3)⟩
theorem x_runSW (C : XC p R s m args meth c cc n ret own Ts D tys) (hX : XS (va_A w0 s.heap.size) s s.heap) (hC : NC s) {y : MethodName} {bytes : ByteArray} {maxL mc ms na index : Nat} {rt : Option FieldType} {hh : List (Nat × Nat × Nat × Nat)} {ws : List Cond} {rm : Room} {Qc : Nat → Array Value → State → Outcome → State → Prop} {As rest : List Value} (hM : ∀ sz, Met l y ws rm (PY D tys As w sz) (Qc sz) mc ms (va_A w sz)) (cw : vx_CSW R s args own index y bytes maxL rt hh ws rm mc ms na) (hn : As.length = na) (hst : (rest.map fun v => v.category).sum ≤ 8) (hd : decode cc pc = .ok (.invokestatic index, 3)) (hf : k + mc ≤ R.cells ∧ j + ms ≤ R.slots) :
    ∀ (H : Heap) (locs : List Loc) (ls : Array Slot), va_P D vwCl w H → va_D (va_A w0 s.heap.size) w → va_S (va_A w0 s.heap.size) s.heap H locs → ls.size = n → va_Run p l e R s m args below meth c H locs k j mc ms (F0 m pc ls (As.reverse ++ rest)) rest (Qc H.size As.toArray) (va_A w H.size) :=
  fun H locs ls hP hD hS hl => vx_runSW ⟨C.1, C.2.1, C.2.2.1, C.2.2.2.1, C.2.2.2.2.1⟩ (hM H.size) cw ⟨PY.blind, x_preY C.2.2.2.2.2.1 C.2.2.2.2.2.2.1 hX hC hP hD hS⟩ rfl hn hl rfl (lv_room hst) hd hf
end XR4
/-- the contract of a method with handlers, out of its body's walk -/
theorem x_metH {l : Launch} (hfl : l.stackTraces = false) {y : MethodName} {ws ws' : List Cond} {rm : Room} {cc : ByteArray} {maxL mc ms : Nat} {ret : Option FieldType} {hh : List (Nat × Nat × Nat × Nat)} {D : va_G} {tys : List (ClassId × FieldType)} {av : List Value} {w : va_W} {Qc : Nat → Array Value → State → Outcome → State → Prop} (own : String) (hown : y.cls = own) (hy : plainName y.cls = true) (hw : ws = Cond.codeWith y cc maxL ret hh :: ws') (hlen : (lg_sl av).length ≤ maxL)
    (body : ∀ p e s m args below meth c, XC p rm s m args meth c cc maxL ret own ws D tys → XH l s c w hh → XW p l e rm s m args below meth c D w maxL (MQ below (Qc s.heap.size) args s mc ms (va_A w s.heap.size)) w 0 0 0 (lv_args 0 av) []) :
    ∀ sz, Met l y ws rm (PY D tys av w sz) (Qc sz) mc ms (va_A w sz) := by
  intro sz
  subst hown
  refine MetFree.of_bodyS (code := cc) (maxLocals := maxL) (ret := ret) hy ?_ ?_
  · intro args s m h hn
    obtain ⟨m9, meth, c, hn9, h1, h2, h3, h4, -, h5, h6, -⟩ := Cond.codeWith_spec (atoms_spec (ws := ws) h _ (by rw [hw]; exact List.mem_cons_self))
    cases hn.symm.trans hn9
    exact ⟨meth, c, h1, h2, h3, h4, h5, h6⟩
  · intro p e s m args below meth c s₁ B hml hv _
    have hh0 : s₁.heap = s.heap := by rw [B.state]; rfl
    obtain ⟨rfl, hsz, hP, hK, hD0, hN, hX, hC⟩ := hv
    subst hsz
    have ht := atoms_spec (ws := ws) B.pre
    have htab : c.exceptionTable.toList = tableOf hh := vx_table (x := y) B (ht _ (by rw [hw]; exact List.mem_cons_self))
    have hl := lv_entry av (n := maxL) hlen
    have K : W p l e rm s m av.toArray below meth c s₁.heap [] 0 0 (MQ below (Qc s.heap.size) av.toArray s mc ms (va_A w s.heap.size)) (entryFrame m av.toArray maxL) := by
      rw [hh0, lg_entry_eq]
      generalize (lg_sl av ++ List.replicate (maxL - (lg_sl av).length) Slot.unset).toArray = ls at hl ⊢
      exact body p e s m _ below meth c ⟨B.exec, B.bytes, hml, findClass_of_methodNamed B.named, ht, hK, hN, B.returns, B.notSynchronized⟩ ⟨hfl, htab, hX, hC⟩ s.heap [] ls hP hD0.self va_S.rf hl
    obtain ⟨t, a1, o, b1, b2, b3⟩ := K s₁ rfl (Stand.of_body B)
    exact ⟨t, o, a1, b1, b2, ⟨b3.1, b3.2⟩⟩
