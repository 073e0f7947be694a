/-! CONSTRUCTORS: worlds that grow; a new cell comes first -/
theorem wl_last {D : va_G} {w : va_W} {x : Nat × va_E} : WL D (w ++ [x]) (x :: w) := by
  refine ⟨fun H h k q hq => ?_, fun A h => ?_⟩
  · have hm : q ∈ w ++ [x] := by
      rcases List.mem_cons.mp (List.mem_of_getElem? hq) with h1 | h1
      · rw [h1]; exact List.mem_append_right _ List.mem_cons_self
      · exact List.mem_append_left _ h1
    obtain ⟨i, hi⟩ := List.getElem?_of_mem hm
    exact h i q hi
  · exact va_D.perm (List.perm_append_comm (l₁ := [x]) (l₂ := w)) h
theorem wl_perm {D : va_G} {w w' : va_W} (hp : w'.Perm w) : WL D w w' := by
  refine ⟨fun H h k q hq => ?_, fun A h => va_D.perm hp h⟩
  obtain ⟨i, hi⟩ := List.getElem?_of_mem (hp.mem_iff.mp (List.mem_of_getElem? hq))
  exact h i q hi
theorem wl_rev {D : va_G} {w rest : va_W} : WL D (w.reverse ++ rest) (w ++ rest) := wl_perm (List.Perm.append_right _ (List.reverse_perm w).symm)
def QU (D : va_G) (tys : List (ClassId × FieldType)) (w : va_W) (wf : (Nat → Nat) → va_W) (sz : Nat) : Array Value → State → Outcome → State → Prop := va_Qv (S := Nat → Nat) (fun _ => True) (fun u t => BE D tys (va_A w sz) (wf u) t) (va_A w sz)
section XR5
variable {p : Program} {l : Launch} {e : Env} {R : Room} {s : State} {m : MethodId} {args : Array Value} {below : List Frame} {meth : Method} {c : Code} {cc : ByteArray} {n : Nat} {ret : Option FieldType} {own : String} {Ts : List Cond} {D : va_G} {tys : List (ClassId × FieldType)} {w0 : va_W} {Q : State → Prop} {w : va_W} {k j pc : Nat} {lv : List (Nat × Value)} {st : List Value}
theorem x_objInit (C : XC p R s m args meth c cc n ret own Ts D tys) {a idx : Nat} (hlk : Cond.methodLink own idx objectInit ∈ Ts) (hin : Cond.instanceMethod objectInit ∈ Ts) (hco : Cond.code objectInit ⟨#[0xb1]⟩ 1 none ∈ Ts) (hd : decode cc pc = .ok (.invokespecial idx, 3)) (hRf : 1 ≤ R.frames) (hRl : (st.map fun v => v.category).sum + 12 ≤ R.locals) (K : XW p l e R s m args below meth c D w0 n Q w k j (pc + 3) lv st) : XW p l e R s m args below meth c D w0 n Q w k j pc lv (.ref a :: st) :=
  fun H locs ls hP hD hS hl => W.objInit C.1 C.2.1 C.2.2.2.1 (C.2.2.2.2.1 _ hlk) (C.2.2.2.2.1 _ hin) (C.2.2.2.2.1 _ hco) rfl (by rw [C.2.2.1]; exact hl.1) rfl hd hRf (by show 2 * 0 + (st.map fun v => v.category).sum + 12 ≤ R.locals; omega) (K H locs ls hP hD hS hl)
/-- a new object -/
theorem x_new (C : XC p R s m args meth c cc n ret own Ts D tys) {ci N index : Nat} {R' : String} {T : u_T} {fs : List Value} (ty : Nat → FieldType) (hty : ∀ x, x < N → parseFieldDescriptor (T x).2.2.1 = some (ty x)) (hin : ∀ z ∈ u_ws R' T N, z ∈ Ts) (hlk : Cond.classLink own index R' ∈ Ts) (hinst : Cond.instantiable R' N ∈ Ts) (hini : Cond.initialized R' ∈ Ts) (hc : vwCl[ci]? = some (R', T, N)) (hfs : ∀ x, x < N → defaultValue (ty x) = vp_V fs x) (hcells : k + 1 ≤ R.cells) (hslots : j + N ≤ R.slots) (hd : decode cc pc = .ok (.new index, 3))
    (K : ∀ q : Nat, XW p l e R s m args below meth c D w0 n Q ((q, .inr (ci, fs)) :: w) (k + 1) (j + N) (pc + 3) lv (.ref q :: st)) : XW p l e R s m args below meth c D w0 n Q w k j pc lv st :=
  fun H locs ls hP hD hS hl => va_new (ci := ci) (fs := fs) (C := R') (T := T) (N := N) C.1 C.2.1 C.2.2.2.2.1 hin ty hty C.2.2.2.1 (C.2.2.2.2.1 _ hlk) (C.2.2.2.2.1 _ hinst) (C.2.2.2.2.1 _ hini) C.2.2.2.2.2.1 hP hD hS (fun q h => Or.inr h) hc hfs hcells hslots hd (fun q H1 hP1 hD1 hS1 => K q H1 locs ls ((wl_last (D := D)).1 H1 hP1) ((wl_last (D := D)).2 _ hD1) hS1 hl)
theorem cls_one {s : State} {cA cB : ClassId} {nm : String} (h1 : s.vm.findClass nm = some cA) (h2 : s.vm.findClass nm = some cB) : cA = cB := Option.some.inj (h1.symm.trans h2)
/-- a new row of ints -/
theorem x_newI {cI cZ cJ : ClassId} (C : XC p R s m args meth c cc n ret own Ts D (t3 cI cZ cJ)) {v : Int32} {N : Nat} (harr : Cond.arrayClass .int ∈ Ts) (hn : ¬ v < 0) (hN : v.toNatClampNeg = N) (hb : N * componentBytes .int ≤ 536870912) (hcells : k + 1 ≤ R.cells) (hslots : j + N ≤ R.slots) (hd : decode cc pc = .ok (.newarray .int, 2))
    (K : ∀ q : Nat, XW p l e R s m args below meth c D w0 n Q ((q, .inl (cI, N, .inl (fun _ => 0))) :: w) (k + 1) (j + N) (pc + 2) lv (.ref q :: st)) : XW p l e R s m args below meth c D w0 n Q w k j pc lv (.int v :: st) :=
  fun H locs ls hP hD hS hl => va_newa (atype := .int) (ty := .int) (a0 := (N, .inl (fun _ => 0))) C.1 C.2.1 (C.2.2.2.2.1 _ harr) rfl C.2.2.2.2.2.1 hP hD hS (fun q h => Or.inr h) (fun cA => by rw [vp_cell_i]; rfl) hn hN hb hcells hslots hd (fun q cA H1 hK1 hP1 hD1 hS1 => by
    have e1 : cA = cI := cls_one (hK1.2 2 (cA, .int) rfl).2 (C.2.2.2.2.2.1.2 0 (cI, .int) rfl).2
    subst e1
    exact K q H1 locs ls ((wl_last (D := D)).1 H1 hP1) ((wl_last (D := D)).2 _ hD1) hS1 hl)
theorem x_newZ {cI cZ cJ : ClassId} (C : XC p R s m args meth c cc n ret own Ts D (t3 cI cZ cJ)) {v : Int32} {N : Nat} (harr : Cond.arrayClass .boolean ∈ Ts) (hn : ¬ v < 0) (hN : v.toNatClampNeg = N) (hb : N * componentBytes .boolean ≤ 536870912) (hcells : k + 1 ≤ R.cells) (hslots : j + N ≤ R.slots) (hd : decode cc pc = .ok (.newarray .boolean, 2))
    (K : ∀ q : Nat, XW p l e R s m args below meth c D w0 n Q ((q, .inl (cZ, N, .inl (fun _ => 0))) :: w) (k + 1) (j + N) (pc + 2) lv (.ref q :: st)) : XW p l e R s m args below meth c D w0 n Q w k j pc lv (.int v :: st) :=
  fun H locs ls hP hD hS hl => va_newa (atype := .boolean) (ty := .boolean) (a0 := (N, .inl (fun _ => 0))) C.1 C.2.1 (C.2.2.2.2.1 _ harr) rfl C.2.2.2.2.2.1 hP hD hS (fun q h => Or.inr h) (fun cA => by rw [vp_cell_i]; rfl) hn hN hb hcells hslots hd (fun q cA H1 hK1 hP1 hD1 hS1 => by
    have e1 : cA = cZ := cls_one (hK1.2 2 (cA, .boolean) rfl).2 (C.2.2.2.2.2.1.2 1 (cZ, .boolean) rfl).2
    subst e1
    exact K q H1 locs ls ((wl_last (D := D)).1 H1 hP1) ((wl_last (D := D)).2 _ hD1) hS1 hl)
/-- a final field, in the constructor -/
theorem x_putF (C : XC p R s m args meth c cc n ret own Ts D tys) (hnm0 : meth.name = "<init>") {a ci N index : Nat} {R' : String} {T : u_T} {fs : List Value} {v : Value} {ft : FieldType} {w' : va_W} (ty : Nat → FieldType) (hty : ∀ x, x < N → parseFieldDescriptor (T x).2.2.1 = some (ty x)) (hnm : ∀ a, a < N → ∀ b, b < N → a ≠ b → (T a).2.1 ≠ (T b).2.1) (q0 f : Nat) (hw : w[q0]? = some (a, .inr (ci, fs))) (hc : vwCl[ci]? = some (R', T, N)) (hf : f < N) (hfin : (T f).2.2.2 = true) (hdesc : ty f = ft) (hn : narrow ft v = v) (hfit : fits ft v = true) (hlen : f < fs.length) (hdecl : (T f).1 = R') (hown : R' = own) (hin : ∀ z ∈ u_ws R' T N, z ∈ Ts) (hlk : Cond.fieldLink own index R' (T f).2.1 (T f).2.2.1 ∈ Ts) (hd : decode cc pc = .ok (.putfield index, 3)) (hw' : w.set q0 (a, .inr (ci, fs.set f v)) = w') (K : XW p l e R s m args below meth c D w0 n Q w' k j (pc + 3) lv st) : XW p l e R s m args below meth c D w0 n Q w k j pc lv (v :: .ref a :: st) :=
  fun H locs ls hP hD hS hl => va_putF (D := D) (ci := ci) (v := v) (ty := ft) (C := R') (T := T) (N := N) C.1 C.2.1 C.2.2.2.2.1 hin ty hty hnm C.2.2.2.1 C.2.2.2.2.2.1 hP hD hS q0 hw hc f hf (C.2.2.2.2.1 _ hlk) (fun x h9 => by rw [hdecl] at h9; exact h9) hfin hnm0 (hdecl.trans hown) (by rw [← hdesc]; exact hty f hf) hn hfit hlen hd (fun H1 locs1 hP1 hD1 hS1 => K H1 locs1 ls (hw' ▸ hP1) (hw' ▸ hD1) hS1 hl)
theorem x_vretU (C : XC p R s m args meth c cc n none own Ts D tys) {wf : (Nat → Nat) → va_W} (u : Nat → Nat) (hd : decode cc pc = .ok (.return_, 1)) (hw : w = wf u) : XW p l e R s m args below meth c D w0 n (MQ below (QU D tys w0 wf s.heap.size) args s k j (va_A w0 s.heap.size)) w k j pc lv [] :=
  fun H locs ls hP hD hS hl => W.vret C.1 C.2.1 C.2.2.2.2.2.2.2.1 (fun t ht hW => ⟨⟨u, rfl, trivial, by rw [ht, ← hw]; exact hP, va_K.moved hW.alike C.2.2.2.2.2.1, by rw [← hw]; exact hD⟩, hS.F ht⟩) hS.2.2 hd C.2.2.2.2.2.2.2.2
theorem x_cu {mc ms : Nat} {wf : (Nat → Nat) → va_W} {stk rest : List Value} {a : Array Value} (hr : ∀ (H : Heap) (locs : List Loc) (ls : Array Slot), va_P D vwCl w H → va_D (va_A w0 s.heap.size) w → va_S (va_A w0 s.heap.size) s.heap H locs → ls.size = n → va_Run p l e R s m args below meth c H locs k j mc ms (F0 m pc ls stk) rest (QU D tys w wf H.size a) (va_A w H.size)) (K : ∀ u : Nat → Nat, XW p l e R s m args below meth c D w0 n Q (wf u) (k + mc) (j + ms) (pc + 3) lv rest) : XW p l e R s m args below meth c D w0 n Q w k j pc lv stk :=
  fun H locs ls hP hD hS hl => va_callv (hr H locs ls hP hD hS hl.1) hS (fun q _ h => x_foot hD hS q h) (x_foot hD hS) (fun u t H1 locs1 ht _ _ hB _ _ hS1 => K u H1 locs1 ls (ht ▸ hB.1) (x_dback hD hS hB.2.2) hS1 hl)
theorem x_runI (C : XC p R s m args meth c cc n ret own Ts D tys) {y : MethodName} {bytes : ByteArray} {maxL mc ms na index : Nat} {ws : List Cond} {rm : Room} {Qc : Nat → Array Value → State → Outcome → State → Prop} {As rest : List Value} {b : Nat} (hM : ∀ sz, Met l y ws rm (PC D tys (.ref b :: As) w sz) (Qc sz) mc ms (va_A w sz)) (cw : CallB R s args own index y bytes maxL none ws rm mc ms na ∧ y.name = "<init>" ∧ (Cond.instanceMethod y).before args s = true) (hn : As.length = na) (hst : (rest.map fun v => v.category).sum ≤ 8) (hd : decode cc pc = .ok (.invokespecial index, 3)) (hf : k + mc ≤ R.cells ∧ j + ms ≤ R.slots) :
    ∀ (H : Heap) (locs : List Loc) (ls : Array Slot), va_P D vwCl w H → va_D (va_A w0 s.heap.size) w → va_S (va_A w0 s.heap.size) s.heap H locs → ls.size = n → va_Run p l e R s m args below meth c H locs k j mc ms (F0 m pc ls (As.reverse ++ .ref b :: rest)) rest (Qc H.size (Value.ref b :: As).toArray) (va_A w H.size) :=
  fun H locs ls hP hD hS hl => va_runI ⟨C.1, C.2.1, C.2.2.1, C.2.2.2.1, C.2.2.2.2.1⟩ (hM H.size) cw ⟨PC.blind, x_pre C.2.2.2.2.2.1 C.2.2.2.2.2.2.1 hP hD⟩ rfl hn hl rfl (lv_room hst) hd hf
theorem x_runIN (C : XC p R s m args meth c cc n ret own Ts D tys) {y : MethodName} {host : String} {bytes : ByteArray} {maxL mc ms na index : Nat} {ws : List Cond} {rm : Room} {Qc : Nat → Array Value → State → Outcome → State → Prop} {As rest : List Value} {b : Nat} (hM : ∀ sz, Met l y ws rm (PC D tys (.ref b :: As) w sz) (Qc sz) mc ms (va_A w sz)) (cw : va_CN R s args own index y host bytes maxL none ws rm mc ms na ∧ y.name = "<init>" ∧ (Cond.instanceMethod y).before args s = true) (hn : As.length = na) (hst : (rest.map fun v => v.category).sum ≤ 8) (hd : decode cc pc = .ok (.invokespecial index, 3)) (hf : k + mc ≤ R.cells ∧ j + ms ≤ R.slots) :
    ∀ (H : Heap) (locs : List Loc) (ls : Array Slot), va_P D vwCl w H → va_D (va_A w0 s.heap.size) w → va_S (va_A w0 s.heap.size) s.heap H locs → ls.size = n → va_Run p l e R s m args below meth c H locs k j mc ms (F0 m pc ls (As.reverse ++ .ref b :: rest)) rest (Qc H.size (Value.ref b :: As).toArray) (va_A w H.size) :=
  fun H locs ls hP hD hS hl => va_runIN ⟨C.1, C.2.1, C.2.2.1, C.2.2.2.1, C.2.2.2.2.1⟩ (hM H.size) cw ⟨PC.blind, x_pre C.2.2.2.2.2.1 C.2.2.2.2.2.2.1 hP hD⟩ rfl hn hl rfl (lv_room hst) hd hf
end XR5
/-- a constructor's contract out of its body's walk -/
theorem x_metI {l : Launch} {y : MethodName} {ws ws' : List Cond} {rm : Room} {cc : ByteArray} {maxL mc ms : Nat} {ret : Option FieldType} {D : va_G} {tys : List (ClassId × FieldType)} {av : List Value} {w : va_W} {Qc : Nat → Array Value → State → Outcome → State → Prop} (own : String) (hown : y.cls = own) (hyn : y.name = "<init>") (hy : plainName y.cls = true) (hw : ws = Cond.code y cc maxL ret :: ws') (hlen : (lg_sl av).length ≤ maxL)
    (body : ∀ p e s m args below meth c, XC p rm s m args meth c cc maxL ret own ws D tys → meth.name = "<init>" → XW p l e rm s m args below meth c D w maxL (MQ below (Qc s.heap.size) args s mc ms (va_A w s.heap.size)) w 0 0 0 (lv_args 0 av) []) :
    ∀ sz, Met l y ws rm (PC D tys av w sz) (Qc sz) mc ms (va_A w sz) := by
  intro sz
  subst hown
  refine Met.ofW (cc := cc) (maxL := maxL) (ret := ret) hy hw ?_
  intro p e s m args below meth c s₁ B hml hv
  obtain ⟨rfl, hsz, hP, hK, hD0, hN⟩ := hv
  subst hsz
  have hl := lv_entry av (n := maxL) hlen
  rw [lg_entry_eq]
  generalize (lg_sl av ++ List.replicate (maxL - (lg_sl av).length) Slot.unset).toArray = ls at hl ⊢
  exact body p e s m _ below meth c ⟨B.exec, B.bytes, hml, findClass_of_methodNamed B.named, atoms_spec (ws := ws) B.pre, hK, hN, B.returns, B.notSynchronized⟩ ((name_of_methodNamed B.named B.method).1.trans hyn) s.heap [] ls hP hD0.self va_S.rf hl
