/-! MORE ROWS: what the law's own methods need -/
section XR6
variable {p : Program} {l : Launch} {e : Env} {R : Room} {s : State} {m : MethodId} {args : Array Value} {below : List Frame} {meth : Method} {c : Code} {cc : ByteArray} {n : Nat} {ret : Option FieldType} {own : String} {Ts : List Cond} {D : va_G} {tys : List (ClassId × FieldType)} {w0 : va_W} {Q : State → Prop} {w : va_W} {k j pc : Nat} {lv : List (Nat × Value)} {st : List Value}
theorem x_ineg (C : XC p R s m args meth c cc n ret own Ts D tys) {x v : Int32} (hd : decode cc pc = .ok (.ineg, 1)) (hv : -x = v) (K : XW p l e R s m args below meth c D w0 n Q w k j (pc + 1) lv (.int v :: st)) : XW p l e R s m args below meth c D w0 n Q w k j pc lv (.int x :: st) :=
  fun H locs ls hP hD hS hl => lv_ineg C.1 C.2.1 hd (by rw [hv]; exact K H locs ls hP hD hS hl)
theorem x_iushr (C : XC p R s m args meth c cc n ret own Ts D tys) {x y v : Int32} (hd : decode cc pc = .ok (.iushr, 1)) (hv : (x.toUInt32 >>> (y.toUInt32 &&& Int32.toUInt32 31)).toInt32 = v) (K : XW p l e R s m args below meth c D w0 n Q w k j (pc + 1) lv (.int v :: st)) : XW p l e R s m args below meth c D w0 n Q w k j pc lv (.int y :: .int x :: st) :=
  fun H locs ls hP hD hS hl => lv_iushr C.1 C.2.1 hd hv (K H locs ls hP hD hS hl)
theorem x_ldci (C : XC p R s m args meth c cc n ret own Ts D tys) {v : Int32} {index : Nat} (hk : Cond.constant own index v ∈ Ts) (hd : decode cc pc = .ok (.ldc index, 2)) (K : XW p l e R s m args below meth c D w0 n Q w k j (pc + 2) lv (.int v :: st)) : XW p l e R s m args below meth c D w0 n Q w k j pc lv st :=
  fun H locs ls hP hD hS hl => lv_ldc C.1 C.2.1 C.2.2.2.1 (C.2.2.2.2.1 _ hk) hd (K H locs ls hP hD hS hl)
theorem x_topi {v v' : Int32} (hv : v = v') (K : XW p l e R s m args below meth c D w0 n Q w k j pc lv (.int v' :: st)) : XW p l e R s m args below meth c D w0 n Q w k j pc lv (.int v :: st) := by
  rw [hv]
  exact K
theorem x_widen {k' j' : Nat} (h1 : k ≤ k') (h2 : j ≤ j') (K : XW p l e R s m args below meth c D w0 n Q w k' j' pc lv st) : XW p l e R s m args below meth c D w0 n Q w k j pc lv st :=
  fun H locs ls hP hD hS hl => W.widen h1 h2 (K H locs ls hP hD hS hl)
theorem x_runSY (C : XC p R s m args meth c cc n ret own Ts D tys) (hX : XS (va_A w0 s.heap.size) s s.heap) (hC : NC s) {y : MethodName} {bytes : ByteArray} {maxL mc ms na index : Nat} {rt : Option FieldType} {ws : List Cond} {rm : Room} {Qc : Nat → Array Value → State → Outcome → State → Prop} {As rest : List Value} (hM : ∀ sz, Met l y ws rm (PY D tys As w sz) (Qc sz) mc ms (va_A w sz)) (cw : CallB R s args own index y bytes maxL rt ws rm mc ms na ∧ (Cond.static y).before args s = true) (hn : As.length = na) (hst : (rest.map fun v => v.category).sum ≤ 8) (hd : decode cc pc = .ok (.invokestatic index, 3)) (hf : k + mc ≤ R.cells ∧ j + ms ≤ R.slots) :
    ∀ (H : Heap) (locs : List Loc) (ls : Array Slot), va_P D vwCl w H → va_D (va_A w0 s.heap.size) w → va_S (va_A w0 s.heap.size) s.heap H locs → ls.size = n → va_Run p l e R s m args below meth c H locs k j mc ms (F0 m pc ls (As.reverse ++ rest)) rest (Qc H.size As.toArray) (va_A w H.size) :=
  fun H locs ls hP hD hS hl => va_runS ⟨C.1, C.2.1, C.2.2.1, C.2.2.2.1, C.2.2.2.2.1⟩ (hM H.size) cw ⟨PY.blind, x_preY C.2.2.2.2.2.1 C.2.2.2.2.2.2.1 hX hC hP hD hS⟩ rfl hn hl rfl (lv_room hst) hd hf
end XR6
/-- the contract of a method without handlers that calls such as throw, out of its body's walk -/
theorem x_metY {l : Launch} {y : MethodName} {ws ws' : List Cond} {rm : Room} {cc : ByteArray} {maxL mc ms : Nat} {ret : Option FieldType} {D : va_G} {tys : List (ClassId × FieldType)} {av : List Value} {w : va_W} {Qc : Nat → Array Value → State → Outcome → State → Prop} (own : String) (hown : y.cls = own) (hy : plainName y.cls = true) (hw : ws = Cond.code y cc maxL ret :: ws') (hlen : (lg_sl av).length ≤ maxL)
    (body : ∀ p e s m args below meth c, XC p rm s m args meth c cc maxL ret own ws D tys → XS (va_A w s.heap.size) s s.heap → NC s → XW p l e rm s m args below meth c D w maxL (MQ below (Qc s.heap.size) args s mc ms (va_A w s.heap.size)) w 0 0 0 (lv_args 0 av) []) :
    ∀ sz, Met l y ws rm (PY D tys av w sz) (Qc sz) mc ms (va_A w sz) := by
  intro sz
  subst hown
  refine Met.ofW (cc := cc) (maxL := maxL) (ret := ret) hy hw ?_
  intro p e s m args below meth c s₁ B hml hv
  obtain ⟨rfl, hsz, hP, hK, hD0, hN, hX, hC⟩ := hv
  subst hsz
  have hl := lv_entry av (n := maxL) hlen
  rw [lg_entry_eq]
  generalize (lg_sl av ++ List.replicate (maxL - (lg_sl av).length) Slot.unset).toArray = ls at hl ⊢
  exact body p e s m _ below meth c ⟨B.exec, B.bytes, hml, findClass_of_methodNamed B.named, atoms_spec (ws := ws) B.pre, hK, hN, B.returns, B.notSynchronized⟩ hX hC s.heap [] ls hP hD0.self va_S.rf hl
