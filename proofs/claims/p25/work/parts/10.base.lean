/-! BASE: states as maps (cell, place) to ints; the judgement XW: W at a world, a list of locals, a stack -/
abbrev St : Type := Nat → Nat → Int32
def up (S : St) (k : Nat) (f : Nat → Int32) : St := fun j => bif Nat.beq j k then f else S j
/-- the links between nest mates -/
def nwM : List (String × Nat × MethodName × String) := [(RX5, 18, yX2_init, RX5), (RX5, 44, yX1_init, RX5), (RX0, 24, yX5_put, RX5), (RX1, 28, yX5_put, RX5), (RX1, 36, yX5_at, RX5), (RX2, 34, yX5_put, RX5), (RX2, 38, yX5_at, RX5), (RX3, 25, yX5_put, RX5), (RX3, 29, yX5_at, RX5), (RX4, 58, yX5_at, RX5), (RX4, 82, yX5_put, RX5)]
def nwF : List (String × Nat × String × String × String × String) := [(RX5, 126, RX4, "size", "I", RX5), (RX5, 164, RX1, "count", "I", RX5), (RX5, 57, RX2, "count", "I", RX5), (RX4, 86, RX2, "entries", "[I", RX5), (RX4, 89, RX2, "targets", "[I", RX5), (RX4, 92, RX2, "contents", "[I", RX5), (RX4, 95, RX2, "kinds", "[I", RX5), (RX4, 98, RX2, "classesOfAdded", "[I", RX5)]
def NW (U : State) : Prop := (∀ q ∈ nwM, va_Nw (.methodLinkNest q.1 q.2.1 q.2.2.1 q.2.2.2) U) ∧ (∀ q ∈ nwF, va_Nw (.fieldLinkNest q.1 q.2.1 q.2.2.1 q.2.2.2.1 q.2.2.2.2.1 q.2.2.2.2.2) U)
theorem NW.same {u U : State} (h : u.vm = U.vm) (hN : NW u) : NW U := ⟨fun q hq => va_Nw.same rfl h (hN.1 q hq), fun q hq => va_Nw.same rfl h (hN.2 q hq)⟩
theorem NW.warm {s U : State} (hW : s.WarmedH U.vm) (hN : NW s) : NW U := ⟨fun q hq => va_Nw.warmM hW (hN.1 q hq), fun q hq => va_Nw.warmF hW (hN.2 q hq)⟩
/-- array types of the worlds -/
abbrev t3 (cI cZ _cJ : ClassId) : List (ClassId × FieldType) := [(cI, .int), (cZ, .boolean)]
/-- a method's start: the world w -/
def PC (D : va_G) (tys : List (ClassId × FieldType)) (av : List Value) (w : va_W) (sz : Nat) : Array Value → State → Prop := va_Pc av (fun U => U.heap.size = sz ∧ va_P D vwCl w U.heap ∧ va_K D vwCl tys U ∧ va_D (fun _ => True) w ∧ NW U)
/-- what a method leaves: the world w' -/
def BE (D : va_G) (tys : List (ClassId × FieldType)) (A : Nat → Prop) (w' : va_W) (t : State) : Prop := va_P D vwCl w' t.heap ∧ va_K D vwCl tys t ∧ va_D A w'
def QI (D : va_G) (tys : List (ClassId × FieldType)) (w w' : va_W) (sz : Nat) (v : Int32) : Array Value → State → Outcome → State → Prop := va_Qi (S := Unit) (fun r _ => r = v) (fun _ t => BE D tys (va_A w sz) w' t) (va_A w sz)
def QV (D : va_G) (tys : List (ClassId × FieldType)) (w w' : va_W) (sz : Nat) : Array Value → State → Outcome → State → Prop := va_Qv (S := Unit) (fun _ => True) (fun _ t => BE D tys (va_A w sz) w' t) (va_A w sz)
def QR (D : va_G) (tys : List (ClassId × FieldType)) (w w' : va_W) (sz : Nat) (v : Nat) : Array Value → State → Outcome → State → Prop := va_Qr (S := Unit) (fun _ => True) (fun _ a t => a = v ∧ BE D tys (va_A w sz) w' t) (va_A w sz)
theorem PC.blind {D : va_G} {tys : List (ClassId × FieldType)} {av : List Value} {w : va_W} {sz : Nat} : FrameBlind (PC D tys av w sz) := fun a U g mk q => by
  obtain ⟨h1, h2, h3, h4, h5, h6⟩ := q
  exact ⟨h1, h2, h3, va_K.moved (u := U) (U := U.calling g mk a) (Vm.Alike.refl U.vm) h4, h5, NW.same (u := U) (U := U.calling g mk a) rfl h6⟩
theorem va_D.mono {A : Nat → Prop} {w w' : va_W} (h : va_D A w) (e : w'.map Prod.fst = w.map Prod.fst) : va_D A w' := by
  have key : ∀ (k : Nat) (q : Nat × va_E), w'[k]? = some q → ∃ q', w[k]? = some q' ∧ q'.1 = q.1 := by
    intro k q hk
    have h1 : (w'.map Prod.fst)[k]? = some q.1 := by rw [List.getElem?_map, hk]; rfl
    rw [e, List.getElem?_map] at h1
    cases hw : w[k]? with
    | none => rw [hw] at h1; cases h1
    | some q' => rw [hw] at h1; exact ⟨q', rfl, Option.some.inj h1⟩
  refine ⟨fun i j p q hi hj hpq => ?_, fun k q hk => ?_⟩
  · obtain ⟨p', h1, h2⟩ := key i p hi
    obtain ⟨q', h3, h4⟩ := key j q hj
    exact h.1 i j p' q' h1 h3 (by rw [h2, h4]; exact hpq)
  · obtain ⟨q', h1, h2⟩ := key k q hk
    rw [← h2]
    exact h.2 k q' h1
/-- locals: a list by rising places -/
def lvIns (i : Nat) (v : Value) : List (Nat × Value) → List (Nat × Value)
  | [] => [(i, v)]
  | a :: l => bif Nat.blt i a.1 then (i, v) :: a :: l else a :: lvIns i v l
theorem lvIns_mem {i : Nat} {v : Value} {q : Nat × Value} : ∀ {l : List (Nat × Value)}, q ∈ lvIns i v l → q = (i, v) ∨ q ∈ l
  | [], h => by
    rw [lvIns] at h
    exact Or.inl (List.mem_singleton.mp h)
  | a :: l, h => by
    rw [lvIns] at h
    cases hb : Nat.blt i a.1 with
    | true =>
      rw [hb, cond_true] at h
      rcases List.mem_cons.mp h with h | h
      · exact Or.inl h
      · exact Or.inr h
    | false =>
      rw [hb, cond_false] at h
      rcases List.mem_cons.mp h with h | h
      · exact Or.inr (by rw [h]; exact List.mem_cons_self)
      · rcases lvIns_mem h with h | h
        · exact Or.inl h
        · exact Or.inr (List.mem_cons_of_mem _ h)
def lvUp (i : Nat) (v : Value) (l : List (Nat × Value)) : List (Nat × Value) := lvIns i v (l.filter (fun q => !(q.1 == i) && !(q.1 + 1 == i && q.2.category == 2)))
theorem lv_of_up {ls : Array Slot} {n i : Nat} {v : Value} {l l' : List (Nat × Value)} (h : lv_has ls n ((i, v) :: l.filter (fun q => !(q.1 == i) && !(q.1 + 1 == i && q.2.category == 2)))) (e : lvUp i v l = l') : lv_has ls n l' := by
  subst e
  refine ⟨h.1, h.2.1, fun q hq => h.2.2 q ?_⟩
  rcases lvIns_mem hq with h1 | h1
  · rw [h1]; exact List.mem_cons_self
  · exact List.mem_cons_of_mem _ h1
/-- what is fixed in a method's body -/
def XC (p : Program) (R : Room) (s : State) (m : MethodId) (args : Array Value) (meth : Method) (c : Code) (cc : ByteArray) (n : Nat) (ret : Option FieldType) (own : String) (Ts : List Cond) (D : va_G) (tys : List (ClassId × FieldType)) : Prop :=
  p.tables.exec = Jvm.exec ∧ c.code = cc ∧ c.maxLocals = n ∧ s.vm.findClass own = some m.cls ∧ (∀ w ∈ Ts, w.before args s = true) ∧ va_K D vwCl tys s ∧ NW s ∧ meth.sig.returnType = ret ∧ meth.locks = false
def XW (p : Program) (l : Launch) (e : Env) (R : Room) (s : State) (m : MethodId) (args : Array Value) (below : List Frame) (meth : Method) (c : Code) (D : va_G) (w0 : va_W) (n : Nat) (Q : State → Prop) (w : va_W) (k j pc : Nat) (lv : List (Nat × Value)) (st : List Value) : Prop :=
  ∀ (H : Heap) (locs : List Loc) (ls : Array Slot), va_P D vwCl w H → va_D (va_A w0 s.heap.size) w → va_S (va_A w0 s.heap.size) s.heap H locs → lv_has ls n lv → W p l e R s m args below meth c H locs k j Q (F0 m pc ls st)
section XR
variable {p : Program} {l : Launch} {e : Env} {R : Room} {s : State} {m : MethodId} {args : Array Value} {below : List Frame} {meth : Method} {c : Code} {cc : ByteArray} {n : Nat} {ret : Option FieldType} {own : String} {Ts : List Cond} {D : va_G} {tys : List (ClassId × FieldType)} {w0 : va_W} {Q : State → Prop} {w : va_W} {k j pc : Nat} {lv : List (Nat × Value)} {st : List Value}
theorem x_iconst (C : XC p R s m args meth c cc n ret own Ts D tys) {i : Int} {v : Int32} (hd : decode cc pc = .ok (.iconst i, 1)) (hv : Int32.ofInt i = v) (K : XW p l e R s m args below meth c D w0 n Q w k j (pc + 1) lv (.int v :: st)) : XW p l e R s m args below meth c D w0 n Q w k j pc lv st :=
  fun H locs ls hP hD hS hl => lv_iconst C.1 C.2.1 hd hv (K H locs ls hP hD hS hl)
theorem x_bipush (C : XC p R s m args meth c cc n ret own Ts D tys) {i : Int} {v : Int32} (hd : decode cc pc = .ok (.bipush i, 2)) (hv : (Int8.ofInt i).toInt32 = v) (K : XW p l e R s m args below meth c D w0 n Q w k j (pc + 2) lv (.int v :: st)) : XW p l e R s m args below meth c D w0 n Q w k j pc lv st :=
  fun H locs ls hP hD hS hl => lv_bipush C.1 C.2.1 hd hv (K H locs ls hP hD hS hl)
theorem x_sipush (C : XC p R s m args meth c cc n ret own Ts D tys) {i : Int} {v : Int32} (hd : decode cc pc = .ok (.sipush i, 3)) (hv : (Int16.ofInt i).toInt32 = v) (K : XW p l e R s m args below meth c D w0 n Q w k j (pc + 3) lv (.int v :: st)) : XW p l e R s m args below meth c D w0 n Q w k j pc lv st :=
  fun H locs ls hP hD hS hl => lv_sipush C.1 C.2.1 hd hv (K H locs ls hP hD hS hl)
theorem x_iload (C : XC p R s m args meth c cc n ret own Ts D tys) {i : Nat} {v : Int32} (q : Nat) (hd : decode cc pc = .ok (.iload i, 2)) (hl0 : lv[q]? = some (i, .int v)) (K : XW p l e R s m args below meth c D w0 n Q w k j (pc + 2) lv (.int v :: st)) : XW p l e R s m args below meth c D w0 n Q w k j pc lv st :=
  fun H locs ls hP hD hS hl => lv_iload C.1 C.2.1 hd (lv_at hl q hl0) (K H locs ls hP hD hS hl)
theorem x_iload_n (C : XC p R s m args meth c cc n ret own Ts D tys) {f : Fin 4} {v : Int32} (q : Nat) (hd : decode cc pc = .ok (.iload_n f, 1)) (hl0 : lv[q]? = some ((f : Nat), .int v)) (K : XW p l e R s m args below meth c D w0 n Q w k j (pc + 1) lv (.int v :: st)) : XW p l e R s m args below meth c D w0 n Q w k j pc lv st :=
  fun H locs ls hP hD hS hl => lv_iload_n C.1 C.2.1 hd rfl (lv_at hl q hl0) (K H locs ls hP hD hS hl)
theorem x_istore (C : XC p R s m args meth c cc n ret own Ts D tys) {i : Nat} {v : Int32} {lv' : List (Nat × Value)} (hd : decode cc pc = .ok (.istore i, 2)) (hn : i < n) (hl0 : lvUp i (.int v) lv = lv') (K : XW p l e R s m args below meth c D w0 n Q w k j (pc + 2) lv' st) : XW p l e R s m args below meth c D w0 n Q w k j pc lv (.int v :: st) :=
  fun H locs _ hP hD hS hl => lv_istore C.1 C.2.1 hd hl hn rfl (fun ls hl' => K H locs ls hP hD hS (lv_of_up hl' hl0))
theorem x_istore_n (C : XC p R s m args meth c cc n ret own Ts D tys) {f : Fin 4} {v : Int32} {lv' : List (Nat × Value)} (hd : decode cc pc = .ok (.istore_n f, 1)) (hn : (f : Nat) < n) (hl0 : lvUp (f : Nat) (.int v) lv = lv') (K : XW p l e R s m args below meth c D w0 n Q w k j (pc + 1) lv' st) : XW p l e R s m args below meth c D w0 n Q w k j pc lv (.int v :: st) :=
  fun H locs _ hP hD hS hl => lv_istore_n C.1 C.2.1 hd rfl hl hn rfl (fun ls hl' => K H locs ls hP hD hS (lv_of_up hl' hl0))
theorem x_aload (C : XC p R s m args meth c cc n ret own Ts D tys) {i : Nat} {v : Nat} (q : Nat) (hd : decode cc pc = .ok (.aload i, 2)) (hl0 : lv[q]? = some (i, .ref v)) (K : XW p l e R s m args below meth c D w0 n Q w k j (pc + 2) lv (.ref v :: st)) : XW p l e R s m args below meth c D w0 n Q w k j pc lv st :=
  fun H locs ls hP hD hS hl => lv_aload C.1 C.2.1 hd (lv_at hl q hl0) (K H locs ls hP hD hS hl)
theorem x_aload_n (C : XC p R s m args meth c cc n ret own Ts D tys) {f : Fin 4} {v : Nat} (q : Nat) (hd : decode cc pc = .ok (.aload_n f, 1)) (hl0 : lv[q]? = some ((f : Nat), .ref v)) (K : XW p l e R s m args below meth c D w0 n Q w k j (pc + 1) lv (.ref v :: st)) : XW p l e R s m args below meth c D w0 n Q w k j pc lv st :=
  fun H locs ls hP hD hS hl => lv_aload_n C.1 C.2.1 hd rfl (lv_at hl q hl0) (K H locs ls hP hD hS hl)
theorem x_astore (C : XC p R s m args meth c cc n ret own Ts D tys) {i : Nat} {v : Nat} {lv' : List (Nat × Value)} (hd : decode cc pc = .ok (.astore i, 2)) (hn : i < n) (hl0 : lvUp i (.ref v) lv = lv') (K : XW p l e R s m args below meth c D w0 n Q w k j (pc + 2) lv' st) : XW p l e R s m args below meth c D w0 n Q w k j pc lv (.ref v :: st) :=
  fun H locs _ hP hD hS hl => lv_astore C.1 C.2.1 hd hl hn rfl (fun ls hl' => K H locs ls hP hD hS (lv_of_up hl' hl0))
theorem x_astore_n (C : XC p R s m args meth c cc n ret own Ts D tys) {f : Fin 4} {v : Nat} {lv' : List (Nat × Value)} (hd : decode cc pc = .ok (.astore_n f, 1)) (hn : (f : Nat) < n) (hl0 : lvUp (f : Nat) (.ref v) lv = lv') (K : XW p l e R s m args below meth c D w0 n Q w k j (pc + 1) lv' st) : XW p l e R s m args below meth c D w0 n Q w k j pc lv (.ref v :: st) :=
  fun H locs _ hP hD hS hl => lv_astore_n C.1 C.2.1 hd rfl hl hn rfl (fun ls hl' => K H locs ls hP hD hS (lv_of_up hl' hl0))
theorem x_iinc (C : XC p R s m args meth c cc n ret own Ts D tys) {i : Nat} {z : Int} {x v : Int32} {lv' : List (Nat × Value)} (q : Nat) (hd : decode cc pc = .ok (.iinc i z, 3)) (hq : lv[q]? = some (i, .int x)) (hv : x + Int32.ofInt z = v) (hn : i < n) (hl0 : lvUp i (.int v) lv = lv') (K : XW p l e R s m args below meth c D w0 n Q w k j (pc + 3) lv' st) : XW p l e R s m args below meth c D w0 n Q w k j pc lv st :=
  fun H locs _ hP hD hS hl => lv_iinc C.1 C.2.1 hd hl hq hv hn rfl (fun ls hl' => K H locs ls hP hD hS (lv_of_up hl' hl0))
theorem x_iadd (C : XC p R s m args meth c cc n ret own Ts D tys) {x y : Int32} (hd : decode cc pc = .ok (.iadd, 1))  (K : XW p l e R s m args below meth c D w0 n Q w k j (pc + 1) lv (.int (x + y) :: st)) : XW p l e R s m args below meth c D w0 n Q w k j pc lv (.int y :: .int x :: st) :=
  fun H locs ls hP hD hS hl => lv_iadd C.1 C.2.1 hd  (K H locs ls hP hD hS hl)
theorem x_isub (C : XC p R s m args meth c cc n ret own Ts D tys) {x y : Int32} (hd : decode cc pc = .ok (.isub, 1))  (K : XW p l e R s m args below meth c D w0 n Q w k j (pc + 1) lv (.int (x - y) :: st)) : XW p l e R s m args below meth c D w0 n Q w k j pc lv (.int y :: .int x :: st) :=
  fun H locs ls hP hD hS hl => lv_isub C.1 C.2.1 hd  (K H locs ls hP hD hS hl)
theorem x_imul (C : XC p R s m args meth c cc n ret own Ts D tys) {x y : Int32} (hd : decode cc pc = .ok (.imul, 1))  (K : XW p l e R s m args below meth c D w0 n Q w k j (pc + 1) lv (.int (x * y) :: st)) : XW p l e R s m args below meth c D w0 n Q w k j pc lv (.int y :: .int x :: st) :=
  fun H locs ls hP hD hS hl => lv_imul C.1 C.2.1 hd  (K H locs ls hP hD hS hl)
theorem x_iand (C : XC p R s m args meth c cc n ret own Ts D tys) {x y : Int32} (hd : decode cc pc = .ok (.iand, 1))  (K : XW p l e R s m args below meth c D w0 n Q w k j (pc + 1) lv (.int (x &&& y) :: st)) : XW p l e R s m args below meth c D w0 n Q w k j pc lv (.int y :: .int x :: st) :=
  fun H locs ls hP hD hS hl => lv_iand C.1 C.2.1 hd  (K H locs ls hP hD hS hl)
theorem x_ior (C : XC p R s m args meth c cc n ret own Ts D tys) {x y : Int32} (hd : decode cc pc = .ok (.ior, 1))  (K : XW p l e R s m args below meth c D w0 n Q w k j (pc + 1) lv (.int (x ||| y) :: st)) : XW p l e R s m args below meth c D w0 n Q w k j pc lv (.int y :: .int x :: st) :=
  fun H locs ls hP hD hS hl => lv_ior C.1 C.2.1 hd  (K H locs ls hP hD hS hl)
theorem x_ishl (C : XC p R s m args meth c cc n ret own Ts D tys) {x y : Int32} (hd : decode cc pc = .ok (.ishl, 1))  (K : XW p l e R s m args below meth c D w0 n Q w k j (pc + 1) lv (.int (x <<< (y &&& 31)) :: st)) : XW p l e R s m args below meth c D w0 n Q w k j pc lv (.int y :: .int x :: st) :=
  fun H locs ls hP hD hS hl => lv_ishl C.1 C.2.1 hd  (K H locs ls hP hD hS hl)
theorem x_ishr (C : XC p R s m args meth c cc n ret own Ts D tys) {x y : Int32} (hd : decode cc pc = .ok (.ishr, 1))  (K : XW p l e R s m args below meth c D w0 n Q w k j (pc + 1) lv (.int (x >>> (y &&& 31)) :: st)) : XW p l e R s m args below meth c D w0 n Q w k j pc lv (.int y :: .int x :: st) :=
  fun H locs ls hP hD hS hl => lv_ishr C.1 C.2.1 hd  (K H locs ls hP hD hS hl)
theorem x_idiv (C : XC p R s m args meth c cc n ret own Ts D tys) {x y : Int32} (hd : decode cc pc = .ok (.idiv, 1)) (hne : ¬ y = 0) (K : XW p l e R s m args below meth c D w0 n Q w k j (pc + 1) lv (.int (x / y) :: st)) : XW p l e R s m args below meth c D w0 n Q w k j pc lv (.int y :: .int x :: st) :=
  fun H locs ls hP hD hS hl => lv_idiv C.1 C.2.1 hd hne (K H locs ls hP hD hS hl)
theorem x_irem (C : XC p R s m args meth c cc n ret own Ts D tys) {x y : Int32} (hd : decode cc pc = .ok (.irem, 1)) (hne : ¬ y = 0) (K : XW p l e R s m args below meth c D w0 n Q w k j (pc + 1) lv (.int (x - x / y * y) :: st)) : XW p l e R s m args below meth c D w0 n Q w k j pc lv (.int y :: .int x :: st) :=
  fun H locs ls hP hD hS hl => lv_irem C.1 C.2.1 hd hne (K H locs ls hP hD hS hl)
theorem x_dup (C : XC p R s m args meth c cc n ret own Ts D tys) {v : Value} (hd : decode cc pc = .ok (.dup, 1)) (hc : v.category = 1) (K : XW p l e R s m args below meth c D w0 n Q w k j (pc + 1) lv (v :: v :: st)) : XW p l e R s m args below meth c D w0 n Q w k j pc lv (v :: st) :=
  fun H locs ls hP hD hS hl => lv_dup C.1 C.2.1 hd hc (K H locs ls hP hD hS hl)
theorem x_dup2 (C : XC p R s m args meth c cc n ret own Ts D tys) {v u : Value} (hd : decode cc pc = .ok (.dup2, 1)) (hc : v.category = 1) (hc2 : u.category = 1) (K : XW p l e R s m args below meth c D w0 n Q w k j (pc + 1) lv (v :: u :: v :: u :: st)) : XW p l e R s m args below meth c D w0 n Q w k j pc lv (v :: u :: st) :=
  fun H locs ls hP hD hS hl => lv_dup2_11 C.1 C.2.1 hd hc hc2 (K H locs ls hP hD hS hl)
theorem x_pop (C : XC p R s m args meth c cc n ret own Ts D tys) {v : Value} (hd : decode cc pc = .ok (.pop, 1)) (hc : v.category = 1) (K : XW p l e R s m args below meth c D w0 n Q w k j (pc + 1) lv st) : XW p l e R s m args below meth c D w0 n Q w k j pc lv (v :: st) :=
  fun H locs ls hP hD hS hl => lv_pop C.1 C.2.1 hd hc (K H locs ls hP hD hS hl)
theorem x_i2l (C : XC p R s m args meth c cc n ret own Ts D tys) {x : Int32} (hd : decode cc pc = .ok (.i2l, 1))  (K : XW p l e R s m args below meth c D w0 n Q w k j (pc + 1) lv (.long x.toInt64 :: st)) : XW p l e R s m args below meth c D w0 n Q w k j pc lv (.int x :: st) :=
  fun H locs ls hP hD hS hl => lv_i2l C.1 C.2.1 hd rfl (K H locs ls hP hD hS hl)
theorem x_lconst (C : XC p R s m args meth c cc n ret own Ts D tys) {f : Fin 2} {v : Int64} (hd : decode cc pc = .ok (.lconst f, 1)) (hv : Int64.ofNat (f : Nat) = v) (K : XW p l e R s m args below meth c D w0 n Q w k j (pc + 1) lv (.long v :: st)) : XW p l e R s m args below meth c D w0 n Q w k j pc lv st :=
  fun H locs ls hP hD hS hl => lv_lconst C.1 C.2.1 hd hv (K H locs ls hP hD hS hl)
theorem x_lcmp (C : XC p R s m args meth c cc n ret own Ts D tys) {x y : Int64} (hd : decode cc pc = .ok (.lcmp, 1))  (K : XW p l e R s m args below meth c D w0 n Q w k j (pc + 1) lv (.int (lg_cmp x y) :: st)) : XW p l e R s m args below meth c D w0 n Q w k j pc lv (.long y :: .long x :: st) :=
  fun H locs ls hP hD hS hl => W.lcmp C.1 C.2.1 hd  (K H locs ls hP hD hS hl)
theorem x_goto (C : XC p R s m args meth c cc n ret own Ts D tys) {o : Int} {t : Nat} (hd : decode cc pc = .ok (.goto o, 3)) (ht : (pc : Int) + o = (t : Int)) (K : XW p l e R s m args below meth c D w0 n Q w k j t lv st) : XW p l e R s m args below meth c D w0 n Q w k j pc lv st :=
  fun H locs ls hP hD hS hl => lv_goto C.1 C.2.1 hd ht (K H locs ls hP hD hS hl)
theorem x_if_eq (C : XC p R s m args meth c cc n ret own Ts D tys) {x : Int32} {o : Int} {t : Nat} (hd : decode cc pc = .ok (.ifCond .eq o, 3)) (ht : (pc : Int) + o = (t : Int)) (K1 : x = 0 → XW p l e R s m args below meth c D w0 n Q w k j t lv st) (K2 : ¬ x = 0 → XW p l e R s m args below meth c D w0 n Q w k j (pc + 3) lv st) : XW p l e R s m args below meth c D w0 n Q w k j pc lv (.int x :: st) :=
  fun H locs ls hP hD hS hl => lv_if_eq C.1 C.2.1 hd ht (fun q => K1 q H locs ls hP hD hS hl) (fun q => K2 q H locs ls hP hD hS hl)
theorem x_if_ne (C : XC p R s m args meth c cc n ret own Ts D tys) {x : Int32} {o : Int} {t : Nat} (hd : decode cc pc = .ok (.ifCond .ne o, 3)) (ht : (pc : Int) + o = (t : Int)) (K1 : ¬ x = 0 → XW p l e R s m args below meth c D w0 n Q w k j t lv st) (K2 : x = 0 → XW p l e R s m args below meth c D w0 n Q w k j (pc + 3) lv st) : XW p l e R s m args below meth c D w0 n Q w k j pc lv (.int x :: st) :=
  fun H locs ls hP hD hS hl => lv_if_ne C.1 C.2.1 hd ht (fun q => K1 q H locs ls hP hD hS hl) (fun q => K2 q H locs ls hP hD hS hl)
theorem x_if_lt (C : XC p R s m args meth c cc n ret own Ts D tys) {x : Int32} {o : Int} {t : Nat} (hd : decode cc pc = .ok (.ifCond .lt o, 3)) (ht : (pc : Int) + o = (t : Int)) (K1 : x < 0 → XW p l e R s m args below meth c D w0 n Q w k j t lv st) (K2 : ¬ x < 0 → XW p l e R s m args below meth c D w0 n Q w k j (pc + 3) lv st) : XW p l e R s m args below meth c D w0 n Q w k j pc lv (.int x :: st) :=
  fun H locs ls hP hD hS hl => lv_if_lt C.1 C.2.1 hd ht (fun q => K1 q H locs ls hP hD hS hl) (fun q => K2 q H locs ls hP hD hS hl)
theorem x_if_ge (C : XC p R s m args meth c cc n ret own Ts D tys) {x : Int32} {o : Int} {t : Nat} (hd : decode cc pc = .ok (.ifCond .ge o, 3)) (ht : (pc : Int) + o = (t : Int)) (K1 : 0 ≤ x → XW p l e R s m args below meth c D w0 n Q w k j t lv st) (K2 : ¬ 0 ≤ x → XW p l e R s m args below meth c D w0 n Q w k j (pc + 3) lv st) : XW p l e R s m args below meth c D w0 n Q w k j pc lv (.int x :: st) :=
  fun H locs ls hP hD hS hl => lv_if_ge C.1 C.2.1 hd ht (fun q => K1 q H locs ls hP hD hS hl) (fun q => K2 q H locs ls hP hD hS hl)
theorem x_if_gt (C : XC p R s m args meth c cc n ret own Ts D tys) {x : Int32} {o : Int} {t : Nat} (hd : decode cc pc = .ok (.ifCond .gt o, 3)) (ht : (pc : Int) + o = (t : Int)) (K1 : 0 < x → XW p l e R s m args below meth c D w0 n Q w k j t lv st) (K2 : ¬ 0 < x → XW p l e R s m args below meth c D w0 n Q w k j (pc + 3) lv st) : XW p l e R s m args below meth c D w0 n Q w k j pc lv (.int x :: st) :=
  fun H locs ls hP hD hS hl => lv_if_gt C.1 C.2.1 hd ht (fun q => K1 q H locs ls hP hD hS hl) (fun q => K2 q H locs ls hP hD hS hl)
theorem x_if_le (C : XC p R s m args meth c cc n ret own Ts D tys) {x : Int32} {o : Int} {t : Nat} (hd : decode cc pc = .ok (.ifCond .le o, 3)) (ht : (pc : Int) + o = (t : Int)) (K1 : x ≤ 0 → XW p l e R s m args below meth c D w0 n Q w k j t lv st) (K2 : ¬ x ≤ 0 → XW p l e R s m args below meth c D w0 n Q w k j (pc + 3) lv st) : XW p l e R s m args below meth c D w0 n Q w k j pc lv (.int x :: st) :=
  fun H locs ls hP hD hS hl => lv_if_le C.1 C.2.1 hd ht (fun q => K1 q H locs ls hP hD hS hl) (fun q => K2 q H locs ls hP hD hS hl)
theorem x_icmp_eq (C : XC p R s m args meth c cc n ret own Ts D tys) {x y : Int32} {o : Int} {t : Nat} (hd : decode cc pc = .ok (.if_icmp .eq o, 3)) (ht : (pc : Int) + o = (t : Int)) (K1 : x = y → XW p l e R s m args below meth c D w0 n Q w k j t lv st) (K2 : ¬ x = y → XW p l e R s m args below meth c D w0 n Q w k j (pc + 3) lv st) : XW p l e R s m args below meth c D w0 n Q w k j pc lv (.int y :: .int x :: st) :=
  fun H locs ls hP hD hS hl => lv_icmp_eq C.1 C.2.1 hd ht (fun q => K1 q H locs ls hP hD hS hl) (fun q => K2 q H locs ls hP hD hS hl)
theorem x_icmp_ne (C : XC p R s m args meth c cc n ret own Ts D tys) {x y : Int32} {o : Int} {t : Nat} (hd : decode cc pc = .ok (.if_icmp .ne o, 3)) (ht : (pc : Int) + o = (t : Int)) (K1 : ¬ x = y → XW p l e R s m args below meth c D w0 n Q w k j t lv st) (K2 : x = y → XW p l e R s m args below meth c D w0 n Q w k j (pc + 3) lv st) : XW p l e R s m args below meth c D w0 n Q w k j pc lv (.int y :: .int x :: st) :=
  fun H locs ls hP hD hS hl => lv_icmp_ne C.1 C.2.1 hd ht (fun q => K1 q H locs ls hP hD hS hl) (fun q => K2 q H locs ls hP hD hS hl)
theorem x_icmp_lt (C : XC p R s m args meth c cc n ret own Ts D tys) {x y : Int32} {o : Int} {t : Nat} (hd : decode cc pc = .ok (.if_icmp .lt o, 3)) (ht : (pc : Int) + o = (t : Int)) (K1 : x < y → XW p l e R s m args below meth c D w0 n Q w k j t lv st) (K2 : ¬ x < y → XW p l e R s m args below meth c D w0 n Q w k j (pc + 3) lv st) : XW p l e R s m args below meth c D w0 n Q w k j pc lv (.int y :: .int x :: st) :=
  fun H locs ls hP hD hS hl => lv_icmp_lt C.1 C.2.1 hd ht (fun q => K1 q H locs ls hP hD hS hl) (fun q => K2 q H locs ls hP hD hS hl)
theorem x_icmp_ge (C : XC p R s m args meth c cc n ret own Ts D tys) {x y : Int32} {o : Int} {t : Nat} (hd : decode cc pc = .ok (.if_icmp .ge o, 3)) (ht : (pc : Int) + o = (t : Int)) (K1 : y ≤ x → XW p l e R s m args below meth c D w0 n Q w k j t lv st) (K2 : ¬ y ≤ x → XW p l e R s m args below meth c D w0 n Q w k j (pc + 3) lv st) : XW p l e R s m args below meth c D w0 n Q w k j pc lv (.int y :: .int x :: st) :=
  fun H locs ls hP hD hS hl => lv_icmp_ge C.1 C.2.1 hd ht (fun q => K1 q H locs ls hP hD hS hl) (fun q => K2 q H locs ls hP hD hS hl)
theorem x_icmp_gt (C : XC p R s m args meth c cc n ret own Ts D tys) {x y : Int32} {o : Int} {t : Nat} (hd : decode cc pc = .ok (.if_icmp .gt o, 3)) (ht : (pc : Int) + o = (t : Int)) (K1 : y < x → XW p l e R s m args below meth c D w0 n Q w k j t lv st) (K2 : ¬ y < x → XW p l e R s m args below meth c D w0 n Q w k j (pc + 3) lv st) : XW p l e R s m args below meth c D w0 n Q w k j pc lv (.int y :: .int x :: st) :=
  fun H locs ls hP hD hS hl => lv_icmp_gt C.1 C.2.1 hd ht (fun q => K1 q H locs ls hP hD hS hl) (fun q => K2 q H locs ls hP hD hS hl)
theorem x_icmp_le (C : XC p R s m args meth c cc n ret own Ts D tys) {x y : Int32} {o : Int} {t : Nat} (hd : decode cc pc = .ok (.if_icmp .le o, 3)) (ht : (pc : Int) + o = (t : Int)) (K1 : x ≤ y → XW p l e R s m args below meth c D w0 n Q w k j t lv st) (K2 : ¬ x ≤ y → XW p l e R s m args below meth c D w0 n Q w k j (pc + 3) lv st) : XW p l e R s m args below meth c D w0 n Q w k j pc lv (.int y :: .int x :: st) :=
  fun H locs ls hP hD hS hl => lv_icmp_le C.1 C.2.1 hd ht (fun q => K1 q H locs ls hP hD hS hl) (fun q => K2 q H locs ls hP hD hS hl)
theorem x_get (C : XC p R s m args meth c cc n ret own Ts D tys) {a ci N index : Nat} {R' : String} {T : u_T} {fs : List Value} {v : Value} (q0 f : Nat) (hw : w[q0]? = some (a, .inr (ci, fs))) (hc : vwCl[ci]? = some (R', T, N)) (hf : f < N) (hv : fs[f]? = some v) (hdecl : (T f).1 = R') (hin : ∀ z ∈ u_ws R' T N, z ∈ Ts) (hlk : Cond.fieldLink own index R' (T f).2.1 (T f).2.2.1 ∈ Ts) (hd : decode cc pc = .ok (.getfield index, 3)) (K : XW p l e R s m args below meth c D w0 n Q w k j (pc + 3) lv (v :: st)) : XW p l e R s m args below meth c D w0 n Q w k j pc lv (.ref a :: st) :=
  fun H locs ls hP hD hS hl => va_get (D := D) (ci := ci) (v := v) (C := R') (T := T) (N := N) C.1 C.2.1 C.2.2.2.2.1 hin C.2.2.2.1 C.2.2.2.2.2.1 hP q0 hw hc f hf (C.2.2.2.2.1 _ hlk) (fun x h9 => by rw [hdecl] at h9; exact h9) hv hd (K H locs ls hP hD hS hl)
theorem x_getN (C : XC p R s m args meth c cc n ret own Ts D tys) {a ci N index : Nat} {R' : String} {T : u_T} {fs : List Value} {v : Value} (q0 f : Nat) (hw : w[q0]? = some (a, .inr (ci, fs))) (hc : vwCl[ci]? = some (R', T, N)) (hf : f < N) (hv : fs[f]? = some v) (hdecl : (T f).1 = R') (hin : ∀ z ∈ u_ws R' T N, z ∈ Ts) (hlk : (own, index, R', (T f).2.1, (T f).2.2.1, RX5) ∈ nwF) (hd : decode cc pc = .ok (.getfield index, 3)) (K : XW p l e R s m args below meth c D w0 n Q w k j (pc + 3) lv (v :: st)) : XW p l e R s m args below meth c D w0 n Q w k j pc lv (.ref a :: st) :=
  fun H locs ls hP hD hS hl => va_getN (D := D) (ci := ci) (v := v) (C := R') (T := T) (N := N) C.1 C.2.1 C.2.2.2.2.1 hin C.2.2.2.1 C.2.2.2.2.2.1 hP q0 hw hc f hf (va_Nw.use rfl (C.2.2.2.2.2.2.1.2 _ hlk)) (fun x h9 => by rw [hdecl] at h9; exact h9) hv hd (K H locs ls hP hD hS hl)
theorem x_put (C : XC p R s m args meth c cc n ret own Ts D tys) {a ci N index : Nat} {R' : String} {T : u_T} {fs : List Value} {v : Int32} {w' : va_W} (ty : Nat → FieldType) (hty : ∀ x, x < N → parseFieldDescriptor (T x).2.2.1 = some (ty x)) (hnm : ∀ a, a < N → ∀ b, b < N → a ≠ b → (T a).2.1 ≠ (T b).2.1) (q0 f : Nat) (hw : w[q0]? = some (a, .inr (ci, fs))) (hc : vwCl[ci]? = some (R', T, N)) (hf : f < N) (hfin : (T f).2.2.2 = false) (hdesc : (T f).2.2.1 = "I") (hlen : f < fs.length) (hdecl : (T f).1 = R') (hin : ∀ z ∈ u_ws R' T N, z ∈ Ts) (hlk : Cond.fieldLink own index R' (T f).2.1 (T f).2.2.1 ∈ Ts) (hd : decode cc pc = .ok (.putfield index, 3)) (hw' : w.set q0 (a, .inr (ci, fs.set f (.int v))) = w') (K : XW p l e R s m args below meth c D w0 n Q w' k j (pc + 3) lv st) : XW p l e R s m args below meth c D w0 n Q w k j pc lv (.int v :: .ref a :: st) :=
  fun H locs ls hP hD hS hl => va_put (D := D) (ci := ci) (v := .int v) (ty := .int) (C := R') (T := T) (N := N) C.1 C.2.1 C.2.2.2.2.1 hin ty hty hnm C.2.2.2.1 C.2.2.2.2.2.1 hP hD hS q0 hw hc f hf (C.2.2.2.2.1 _ hlk) (fun x h9 => by rw [hdecl] at h9; exact h9) hfin (by rw [hdesc]; decide +kernel) rfl rfl hlen hd (fun H1 locs1 hP1 hD1 hS1 => K H1 locs1 ls (hw' ▸ hP1) (hw' ▸ hD1) hS1 hl)
theorem x_alen (C : XC p R s m args meth c cc n ret own Ts D tys) {a N : Nat} {cA : ClassId} {f : Nat → Int32} {ty : FieldType} (q0 t0 : Nat) (hw : w[q0]? = some (a, .inl (cA, N, .inl f))) (ht : tys[t0]? = some (cA, ty)) (hd : decode cc pc = .ok (.arraylength, 1)) (K : XW p l e R s m args below meth c D w0 n Q w k j (pc + 1) lv (.int (Int32.ofNat N) :: st)) : XW p l e R s m args below meth c D w0 n Q w k j pc lv (.ref a :: st) :=
  fun H locs ls hP hD hS hl => va_alen C.1 C.2.1 C.2.2.2.2.2.1 hP q0 t0 hw ht rfl hd (K H locs ls hP hD hS hl)
theorem x_iald {cI cZ cJ : ClassId} (C : XC p R s m args meth c cc n ret own Ts D (t3 cI cZ cJ)) {a N : Nat} {f : Nat → Int32} {i : Int32} (q0 : Nat) (hw : w[q0]? = some (a, .inl (cI, N, .inl f))) (hi : vp_in i N) (hd : decode cc pc = .ok (.iaload, 1)) (K : XW p l e R s m args below meth c D w0 n Q w k j (pc + 1) lv (.int (f i.toNatClampNeg) :: st)) : XW p l e R s m args below meth c D w0 n Q w k j pc lv (.int i :: .ref a :: st) :=
  fun H locs ls hP hD hS hl => va_iald C.1 C.2.1 C.2.2.2.2.2.1 hP q0 0 hw rfl hi hd (K H locs ls hP hD hS hl)
theorem x_zald {cI cZ cJ : ClassId} (C : XC p R s m args meth c cc n ret own Ts D (t3 cI cZ cJ)) {a N : Nat} {f : Nat → Int32} {i : Int32} (q0 : Nat) (hw : w[q0]? = some (a, .inl (cZ, N, .inl f))) (hi : vp_in i N) (hd : decode cc pc = .ok (.baload, 1)) (K : XW p l e R s m args below meth c D w0 n Q w k j (pc + 1) lv (.int (f i.toNatClampNeg) :: st)) : XW p l e R s m args below meth c D w0 n Q w k j pc lv (.int i :: .ref a :: st) :=
  fun H locs ls hP hD hS hl => va_zald C.1 C.2.1 C.2.2.2.2.2.1 hP q0 1 hw rfl hi hd (K H locs ls hP hD hS hl)
theorem x_iast {cI cZ cJ : ClassId} (C : XC p R s m args meth c cc n ret own Ts D (t3 cI cZ cJ)) {a N : Nat} {f : Nat → Int32} {i x : Int32} {w' : va_W} (q0 : Nat) (hw : w[q0]? = some (a, .inl (cI, N, .inl f))) (hi : vp_in i N) (hd : decode cc pc = .ok (.iastore, 1)) (hw' : w.set q0 (a, .inl (cI, N, .inl (upd f i.toNatClampNeg x))) = w') (K : XW p l e R s m args below meth c D w0 n Q w' k j (pc + 1) lv st) : XW p l e R s m args below meth c D w0 n Q w k j pc lv (.int x :: .int i :: .ref a :: st) :=
  fun H locs ls hP hD hS hl => va_iast C.1 C.2.1 C.2.2.2.2.2.1 hP hD hS q0 0 hw rfl hi hd (fun H1 locs1 hP1 hD1 hS1 => K H1 locs1 ls (hw' ▸ hP1) (hw' ▸ hD1) hS1 hl)
theorem x_zast {cI cZ cJ : ClassId} (C : XC p R s m args meth c cc n ret own Ts D (t3 cI cZ cJ)) {a N : Nat} {f : Nat → Int32} {i x : Int32} {w' : va_W} (q0 : Nat) (hw : w[q0]? = some (a, .inl (cZ, N, .inl f))) (hi : vp_in i N) (hd : decode cc pc = .ok (.bastore, 1)) (hw' : w.set q0 (a, .inl (cZ, N, .inl (upd f i.toNatClampNeg (vp_nar .boolean x)))) = w') (K : XW p l e R s m args below meth c D w0 n Q w' k j (pc + 1) lv st) : XW p l e R s m args below meth c D w0 n Q w k j pc lv (.int x :: .int i :: .ref a :: st) :=
  fun H locs ls hP hD hS hl => va_zast C.1 C.2.1 C.2.2.2.2.2.1 hP hD hS q0 1 hw rfl hi hd (fun H1 locs1 hP1 hD1 hS1 => K H1 locs1 ls (hw' ▸ hP1) (hw' ▸ hD1) hS1 hl)
theorem x_tableIn (C : XC p R s m args meth c cc n ret own Ts D tys) {dflt lo hi off : Int} {offs : Array Int} {len t : Nat} {x : Int32} (hd : decode cc pc = .ok (.tableswitch dflt lo hi offs, len)) {v : Int} (hx : x.toInt = v) (h1 : ¬ v < lo) (h2 : ¬ hi < v) (ho : offs[(v - lo).toNat]? = some off) (ht : (pc : Int) + off = (t : Int)) (K : XW p l e R s m args below meth c D w0 n Q w k j t lv st) : XW p l e R s m args below meth c D w0 n Q w k j pc lv (.int x :: st) :=
  fun H locs ls hP hD hS hl => lv_tableIn C.1 C.2.1 hd (by rw [hx]; exact h1) (by rw [hx]; exact h2) (by rw [hx]; exact ho) ht (K H locs ls hP hD hS hl)
theorem x_tableOut (C : XC p R s m args meth c cc n ret own Ts D tys) {dflt lo hi : Int} {offs : Array Int} {len t : Nat} {x : Int32} (hd : decode cc pc = .ok (.tableswitch dflt lo hi offs, len)) (h : x.toInt < lo ∨ hi < x.toInt) (ht : (pc : Int) + dflt = (t : Int)) (K : XW p l e R s m args below meth c D w0 n Q w k j t lv st) : XW p l e R s m args below meth c D w0 n Q w k j pc lv (.int x :: st) :=
  fun H locs ls hP hD hS hl => lv_tableOut C.1 C.2.1 hd h ht (K H locs ls hP hD hS hl)
theorem x_world {w' : va_W} (h : ∀ H : Heap, va_P D vwCl w H → va_P D vwCl w' H) (hd : va_D (va_A w0 s.heap.size) w → va_D (va_A w0 s.heap.size) w') (K : XW p l e R s m args below meth c D w0 n Q w' k j pc lv st) : XW p l e R s m args below meth c D w0 n Q w k j pc lv st :=
  fun H locs ls hP hD hS hl => K H locs ls (h H hP) (hd hD) hS hl
theorem x_locals {lv' : List (Nat × Value)} (ks : List Nat) (h : lv_pick lv ks = lv') (K : XW p l e R s m args below meth c D w0 n Q w k j pc lv' st) : XW p l e R s m args below meth c D w0 n Q w k j pc lv st :=
  fun H locs ls hP hD hS hl => K H locs ls hP hD hS (lv_sub hl ks h)
theorem x_iret (C : XC p R s m args meth c cc n (some .int) own Ts D tys) {v : Int32} (hd : decode cc pc = .ok (.ireturn, 1)) : XW p l e R s m args below meth c D w0 n (MQ below (QI D tys w0 w s.heap.size v) args s k j (va_A w0 s.heap.size)) w k j pc lv (.int v :: []) :=
  fun H locs ls hP hD hS hl => W.iret (v := v) C.1 C.2.1 C.2.2.2.2.2.2.2.1 (fun t ht hW => ⟨⟨v, (), rfl, rfl, by rw [ht]; exact hP, va_K.moved hW.alike C.2.2.2.2.2.1, hD⟩, hS.F ht⟩) hS.2.2 hd C.2.2.2.2.2.2.2.2
theorem x_zret (C : XC p R s m args meth c cc n (some .boolean) own Ts D tys) {v : Int32} (hv : v &&& 1 = v) (hd : decode cc pc = .ok (.ireturn, 1)) : XW p l e R s m args below meth c D w0 n (MQ below (QI D tys w0 w s.heap.size v) args s k j (va_A w0 s.heap.size)) w k j pc lv (.int v :: []) :=
  fun H locs ls hP hD hS hl => W.zret (v := v) C.1 C.2.1 C.2.2.2.2.2.2.2.1 (by show Value.int (v &&& 1) = Value.int v; rw [hv]) (fun t ht hW => ⟨⟨v, (), rfl, rfl, by rw [ht]; exact hP, va_K.moved hW.alike C.2.2.2.2.2.1, hD⟩, hS.F ht⟩) hS.2.2 hd C.2.2.2.2.2.2.2.2
theorem x_vret (C : XC p R s m args meth c cc n none own Ts D tys)  (hd : decode cc pc = .ok (.return_, 1)) : XW p l e R s m args below meth c D w0 n (MQ below (QV D tys w0 w s.heap.size) args s k j (va_A w0 s.heap.size)) w k j pc lv [] :=
  fun H locs ls hP hD hS hl => W.vret C.1 C.2.1 C.2.2.2.2.2.2.2.1 (fun t ht hW => ⟨⟨(), rfl, trivial, by rw [ht]; exact hP, va_K.moved hW.alike C.2.2.2.2.2.1, hD⟩, hS.F ht⟩) hS.2.2 hd C.2.2.2.2.2.2.2.2
theorem x_foot {H : Heap} {locs : List Loc} (hD : va_D (va_A w0 s.heap.size) w) (hS : va_S (va_A w0 s.heap.size) s.heap H locs) : ∀ q, va_A w H.size q → va_A w0 s.heap.size q := by
  intro q h
  rcases h with ⟨k, e, h⟩ | h
  · exact hD.2 k (q, e) h
  · exact Or.inr (Nat.le_trans hS.1 h)
theorem x_dback {H : Heap} {locs : List Loc} {w' : va_W} (hD : va_D (va_A w0 s.heap.size) w) (hS : va_S (va_A w0 s.heap.size) s.heap H locs) (h : va_D (va_A w H.size) w') : va_D (va_A w0 s.heap.size) w' := h.weaken (fun _ q _ hq => x_foot hD hS q.1 hq)
theorem x_ci {mc ms : Nat} {v : Int32} {w' : va_W} {stk rest : List Value} {a : Array Value} (hr : ∀ (H : Heap) (locs : List Loc) (ls : Array Slot), va_P D vwCl w H → va_D (va_A w0 s.heap.size) w → va_S (va_A w0 s.heap.size) s.heap H locs → ls.size = n → va_Run p l e R s m args below meth c H locs k j mc ms (F0 m pc ls stk) rest (QI D tys w w' H.size v a) (va_A w H.size)) (K : XW p l e R s m args below meth c D w0 n Q w' (k + mc) (j + ms) (pc + 3) lv (.int v :: rest)) : XW p l e R s m args below meth c D w0 n Q w k j pc lv stk :=
  fun H locs ls hP hD hS hl => va_calli (hr H locs ls hP hD hS hl.1) hS (fun q _ h => x_foot hD hS q h) (x_foot hD hS) (fun r _ t H1 locs1 ht _ hw hB _ _ hS1 => by
    subst hw
    exact K H1 locs1 ls (ht ▸ hB.1) (x_dback hD hS hB.2.2) hS1 hl)
theorem x_cv {mc ms : Nat} {w' : va_W} {stk rest : List Value} {a : Array Value} (hr : ∀ (H : Heap) (locs : List Loc) (ls : Array Slot), va_P D vwCl w H → va_D (va_A w0 s.heap.size) w → va_S (va_A w0 s.heap.size) s.heap H locs → ls.size = n → va_Run p l e R s m args below meth c H locs k j mc ms (F0 m pc ls stk) rest (QV D tys w w' H.size a) (va_A w H.size)) (K : XW p l e R s m args below meth c D w0 n Q w' (k + mc) (j + ms) (pc + 3) lv rest) : XW p l e R s m args below meth c D w0 n Q w k j pc lv stk :=
  fun H locs ls hP hD hS hl => va_callv (hr H locs ls hP hD hS hl.1) hS (fun q _ h => x_foot hD hS q h) (x_foot hD hS) (fun _ t H1 locs1 ht _ _ hB _ _ hS1 => K H1 locs1 ls (ht ▸ hB.1) (x_dback hD hS hB.2.2) hS1 hl)
theorem x_cr {mc ms v : Nat} {w' : va_W} {stk rest : List Value} {a : Array Value} (hr : ∀ (H : Heap) (locs : List Loc) (ls : Array Slot), va_P D vwCl w H → va_D (va_A w0 s.heap.size) w → va_S (va_A w0 s.heap.size) s.heap H locs → ls.size = n → va_Run p l e R s m args below meth c H locs k j mc ms (F0 m pc ls stk) rest (QR D tys w w' H.size v a) (va_A w H.size)) (K : XW p l e R s m args below meth c D w0 n Q w' (k + mc) (j + ms) (pc + 3) lv (.ref v :: rest)) : XW p l e R s m args below meth c D w0 n Q w k j pc lv stk :=
  fun H locs ls hP hD hS hl => va_callr (hr H locs ls hP hD hS hl.1) hS (fun q _ h => x_foot hD hS q h) (x_foot hD hS) (fun _ ra t H1 locs1 ht _ _ hB _ _ hS1 => by
    obtain ⟨rfl, hB⟩ := hB
    exact K H1 locs1 ls (ht ▸ hB.1) (x_dback hD hS hB.2.2) hS1 hl)
theorem x_pre {H : Heap} {av : List Value} (hK : va_K D vwCl tys s) (hN : NW s) (hP : va_P D vwCl w H) (hD : va_D (va_A w0 s.heap.size) w) : ∀ U : State, U.heap = H → s.WarmedH U.vm → PC D tys av w H.size av.toArray U :=
  fun U hU hW => ⟨rfl, by rw [hU], by rw [hU]; exact hP, va_K.moved hW.alike hK, hD.weaken (fun _ _ _ _ => trivial), NW.warm hW hN⟩
theorem x_runV (C : XC p R s m args meth c cc n ret own Ts D tys) {y : MethodName} {bytes : ByteArray} {maxL mc ms na index : Nat} {rt : Option FieldType} {ws : List Cond} {rm : Room} {Cn : String} {Qc : Nat → Array Value → State → Outcome → State → Prop} {As rest : List Value} {b : Nat} (hM : ∀ sz, Met l y ws rm (PC D tys (.ref b :: As) w sz) (Qc sz) mc ms (va_A w sz)) (cw : CallW R s args own Cn index y bytes maxL rt ws rm mc ms na) (q0 : Nat) {ci N : Nat} {T : u_T} {fs : List Value} (hw : w[q0]? = some (b, .inr (ci, fs))) (hc : vwCl[ci]? = some (Cn, T, N)) (hn : As.length = na) (hst : (rest.map fun v => v.category).sum ≤ 8) (hd : decode cc pc = .ok (.invokevirtual index, 3)) (hf : k + mc ≤ R.cells ∧ j + ms ≤ R.slots) :
    ∀ (H : Heap) (locs : List Loc) (ls : Array Slot), va_P D vwCl w H → va_D (va_A w0 s.heap.size) w → va_S (va_A w0 s.heap.size) s.heap H locs → ls.size = n → va_Run p l e R s m args below meth c H locs k j mc ms (F0 m pc ls (As.reverse ++ .ref b :: rest)) rest (Qc H.size (Value.ref b :: As).toArray) (va_A w H.size) :=
  fun H locs ls hP hD hS hl => va_runV ⟨C.1, C.2.1, C.2.2.1, C.2.2.2.1, C.2.2.2.2.1⟩ (hM H.size) cw ⟨PC.blind, va_recv C.2.2.2.2.2.1 hP hc hw, x_pre C.2.2.2.2.2.1 C.2.2.2.2.2.2.1 hP hD⟩ rfl hn hl rfl (lv_room hst) hd hf
theorem x_runS (C : XC p R s m args meth c cc n ret own Ts D tys) {y : MethodName} {bytes : ByteArray} {maxL mc ms na index : Nat} {rt : Option FieldType} {ws : List Cond} {rm : Room} {Qc : Nat → Array Value → State → Outcome → State → Prop} {As rest : List Value} (hM : ∀ sz, Met l y ws rm (PC D tys As w sz) (Qc sz) mc ms (va_A w sz)) (cw : CallB R s args own index y bytes maxL rt ws rm mc ms na ∧ (Cond.static y).before args s = true) (hn : As.length = na) (hst : (rest.map fun v => v.category).sum ≤ 8) (hd : decode cc pc = .ok (.invokestatic index, 3)) (hf : k + mc ≤ R.cells ∧ j + ms ≤ R.slots) :
    ∀ (H : Heap) (locs : List Loc) (ls : Array Slot), va_P D vwCl w H → va_D (va_A w0 s.heap.size) w → va_S (va_A w0 s.heap.size) s.heap H locs → ls.size = n → va_Run p l e R s m args below meth c H locs k j mc ms (F0 m pc ls (As.reverse ++ rest)) rest (Qc H.size As.toArray) (va_A w H.size) :=
  fun H locs ls hP hD hS hl => va_runS ⟨C.1, C.2.1, C.2.2.1, C.2.2.2.1, C.2.2.2.2.1⟩ (hM H.size) cw ⟨PC.blind, x_pre C.2.2.2.2.2.1 C.2.2.2.2.2.2.1 hP hD⟩ rfl hn hl rfl (lv_room hst) hd hf
theorem x_runSN (C : XC p R s m args meth c cc n ret own Ts D tys) {y : MethodName} {bytes : ByteArray} {maxL mc ms na index : Nat} {rt : Option FieldType} {ws : List Cond} {rm : Room} {host : String} {Qc : Nat → Array Value → State → Outcome → State → Prop} {As rest : List Value} (hM : ∀ sz, Met l y ws rm (PC D tys As w sz) (Qc sz) mc ms (va_A w sz)) (cw : va_CN R s args own index y host bytes maxL rt ws rm mc ms na ∧ (Cond.static y).before args s = true ∧ True) (hn : As.length = na) (hst : (rest.map fun v => v.category).sum ≤ 8) (hd : decode cc pc = .ok (.invokestatic index, 3)) (hf : k + mc ≤ R.cells ∧ j + ms ≤ R.slots) :
    ∀ (H : Heap) (locs : List Loc) (ls : Array Slot), va_P D vwCl w H → va_D (va_A w0 s.heap.size) w → va_S (va_A w0 s.heap.size) s.heap H locs → ls.size = n → va_Run p l e R s m args below meth c H locs k j mc ms (F0 m pc ls (As.reverse ++ rest)) rest (Qc H.size As.toArray) (va_A w H.size) :=
  fun H locs ls hP hD hS hl => va_runSN ⟨C.1, C.2.1, C.2.2.1, C.2.2.2.1, C.2.2.2.2.1⟩ (hM H.size) cw ⟨PC.blind, x_pre C.2.2.2.2.2.1 C.2.2.2.2.2.2.1 hP hD⟩ rfl hn hl rfl (lv_room hst) hd hf
end XR
/-- a method's contract out of its body's walk -/
theorem x_met {l : Launch} {y : MethodName} {ws ws' : List Cond} {rm : Room} {cc : ByteArray} {maxL mc ms : Nat} {ret : Option FieldType} {D : va_G} {tys : List (ClassId × FieldType)} {av : List Value} {w : va_W} {Qc : Nat → Array Value → State → Outcome → State → Prop} (own : String) (hown : y.cls = own) (hy : plainName y.cls = true) (hw : ws = Cond.code y cc maxL ret :: ws') (hlen : (lg_sl av).length ≤ maxL)
    (body : ∀ p e s m args below meth c, XC p rm s m args meth c cc maxL ret own ws D tys → XW p l e rm s m args below meth c D w maxL (MQ below (Qc s.heap.size) args s mc ms (va_A w s.heap.size)) w 0 0 0 (lv_args 0 av) []) :
    ∀ sz, Met l y ws rm (PC D tys av w sz) (Qc sz) mc ms (va_A w sz) := by
  intro sz
  subst hown
  refine Met.ofW (cc := cc) (maxL := maxL) (ret := ret) hy hw ?_
  intro p e s m args below meth c s₁ B hml hv
  obtain ⟨rfl, hsz, hP, hK, hD0, hN⟩ := hv
  subst hsz
  have hl := lv_entry av (n := maxL) hlen
  rw [lg_entry_eq]
  generalize (lg_sl av ++ List.replicate (maxL - (lg_sl av).length) Slot.unset).toArray = ls at hl ⊢
  exact body p e s m _ below meth c ⟨B.exec, B.bytes, hml, findClass_of_methodNamed B.named, atoms_spec (ws := ws) B.pre, hK, hN, B.returns, B.notSynchronized⟩ s.heap [] ls hP hD0.self va_S.rf hl
