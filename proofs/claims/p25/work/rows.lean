section
-- ===== PART A: goes FIRST, ahead of the names: the tables' words, and 'selects' of the private methods out of them =====
/-- a private method of a class that the tables say can be made, by its rows of tables_1 -/
def lw_okq (q : MethodName × Nat) : Prop := (q.1.cls ≠ "java/lang/invoke/MethodHandle" ∧ q.1.cls ≠ "java/lang/invoke/VarHandle") ∧ Cond.instantiable q.1.cls q.2 ∈ tables_1 ∧ Cond.privateMethod q.1 ∈ tables_1 ∧ Cond.instanceMethod q.1 ∈ tables_1
theorem lw_p0 : lw_okq (⟨"EntryMasters$Tree", "clear", "()V"⟩, 11) := ⟨⟨by decide +kernel, by decide +kernel⟩, List.mem_of_getElem? (i := 74) (by decide +kernel), List.mem_of_getElem? (i := 80) (by decide +kernel), List.mem_of_getElem? (i := 81) (by decide +kernel)⟩
theorem lw_p1 : lw_okq (⟨"EntryMasters", "treeOf", "(I)LEntryMasters$Tree;"⟩, 6) := ⟨⟨by decide +kernel, by decide +kernel⟩, List.mem_of_getElem? (i := 15) (by decide +kernel), List.mem_of_getElem? (i := 181) (by decide +kernel), List.mem_of_getElem? (i := 182) (by decide +kernel)⟩
theorem lw_p2 : lw_okq (⟨"java/lang/Throwable", "fillInStackTrace", "(I)Ljava/lang/Throwable;"⟩, 6) := ⟨⟨by decide +kernel, by decide +kernel⟩, List.mem_of_getElem? (i := 226) (by decide +kernel), List.mem_of_getElem? (i := 224) (by decide +kernel), List.mem_of_getElem? (i := 225) (by decide +kernel)⟩
theorem lw_p3 : lw_okq (⟨"EntryMasters", "checkRoomForChange", "()V"⟩, 6) := ⟨⟨by decide +kernel, by decide +kernel⟩, List.mem_of_getElem? (i := 15) (by decide +kernel), List.mem_of_getElem? (i := 283) (by decide +kernel), List.mem_of_getElem? (i := 284) (by decide +kernel)⟩
theorem lw_p4 : lw_okq (⟨"EntryMasters$Tree", "putInOrder", "(I)I"⟩, 11) := ⟨⟨by decide +kernel, by decide +kernel⟩, List.mem_of_getElem? (i := 74) (by decide +kernel), List.mem_of_getElem? (i := 340) (by decide +kernel), List.mem_of_getElem? (i := 341) (by decide +kernel)⟩
theorem lw_p5 : lw_okq (⟨"EntryMasters$Tree", "perform", "(I)V"⟩, 11) := ⟨⟨by decide +kernel, by decide +kernel⟩, List.mem_of_getElem? (i := 74) (by decide +kernel), List.mem_of_getElem? (i := 349) (by decide +kernel), List.mem_of_getElem? (i := 350) (by decide +kernel)⟩
theorem lw_p6 : lw_okq (⟨"EntryMasters$Tree", "performAdding", "(IIII)V"⟩, 11) := ⟨⟨by decide +kernel, by decide +kernel⟩, List.mem_of_getElem? (i := 74) (by decide +kernel), List.mem_of_getElem? (i := 353) (by decide +kernel), List.mem_of_getElem? (i := 354) (by decide +kernel)⟩
theorem lw_p7 : lw_okq (⟨"EntryMasters$Tree", "settle", "(II)V"⟩, 11) := ⟨⟨by decide +kernel, by decide +kernel⟩, List.mem_of_getElem? (i := 74) (by decide +kernel), List.mem_of_getElem? (i := 357) (by decide +kernel), List.mem_of_getElem? (i := 358) (by decide +kernel)⟩
theorem lw_p8 : lw_okq (⟨"EntryMasters$Tree", "performSetting", "(III)V"⟩, 11) := ⟨⟨by decide +kernel, by decide +kernel⟩, List.mem_of_getElem? (i := 74) (by decide +kernel), List.mem_of_getElem? (i := 363) (by decide +kernel), List.mem_of_getElem? (i := 364) (by decide +kernel)⟩
theorem lw_p9 : lw_okq (⟨"EntryMasters$Tree", "performMoving", "(III)V"⟩, 11) := ⟨⟨by decide +kernel, by decide +kernel⟩, List.mem_of_getElem? (i := 74) (by decide +kernel), List.mem_of_getElem? (i := 378) (by decide +kernel), List.mem_of_getElem? (i := 379) (by decide +kernel)⟩
theorem lw_p10 : lw_okq (⟨"EntryMasters$Tree", "performDeleting", "(I)V"⟩, 11) := ⟨⟨by decide +kernel, by decide +kernel⟩, List.mem_of_getElem? (i := 74) (by decide +kernel), List.mem_of_getElem? (i := 390) (by decide +kernel), List.mem_of_getElem? (i := 391) (by decide +kernel)⟩
theorem lw_p11 : lw_okq (⟨"EntryMasters", "checkRoomForFilter", "()V"⟩, 6) := ⟨⟨by decide +kernel, by decide +kernel⟩, List.mem_of_getElem? (i := 15) (by decide +kernel), List.mem_of_getElem? (i := 492) (by decide +kernel), List.mem_of_getElem? (i := 493) (by decide +kernel)⟩
theorem lw_p12 : lw_okq (⟨"EntryMasters", "isFound", "(LEntryMasters$Tree;III)Z"⟩, 6) := ⟨⟨by decide +kernel, by decide +kernel⟩, List.mem_of_getElem? (i := 15) (by decide +kernel), List.mem_of_getElem? (i := 547) (by decide +kernel), List.mem_of_getElem? (i := 548) (by decide +kernel)⟩
theorem lw_p13 : lw_okq (⟨"EntryMasters", "nextInScope", "(LEntryMasters$Tree;III)I"⟩, 6) := ⟨⟨by decide +kernel, by decide +kernel⟩, List.mem_of_getElem? (i := 15) (by decide +kernel), List.mem_of_getElem? (i := 557) (by decide +kernel), List.mem_of_getElem? (i := 558) (by decide +kernel)⟩
theorem lw_p14 : lw_okq (⟨"EntryMasters$Tree", "hasSameEntry", "(LEntryMasters$Tree;I)Z"⟩, 11) := ⟨⟨by decide +kernel, by decide +kernel⟩, List.mem_of_getElem? (i := 74) (by decide +kernel), List.mem_of_getElem? (i := 578) (by decide +kernel), List.mem_of_getElem? (i := 579) (by decide +kernel)⟩
def lw_privs_1 : List (MethodName × Nat) := [(⟨"EntryMasters$Tree", "clear", "()V"⟩, 11), (⟨"EntryMasters", "treeOf", "(I)LEntryMasters$Tree;"⟩, 6), (⟨"java/lang/Throwable", "fillInStackTrace", "(I)Ljava/lang/Throwable;"⟩, 6), (⟨"EntryMasters", "checkRoomForChange", "()V"⟩, 6), (⟨"EntryMasters$Tree", "putInOrder", "(I)I"⟩, 11), (⟨"EntryMasters$Tree", "perform", "(I)V"⟩, 11), (⟨"EntryMasters$Tree", "performAdding", "(IIII)V"⟩, 11), (⟨"EntryMasters$Tree", "settle", "(II)V"⟩, 11), (⟨"EntryMasters$Tree", "performSetting", "(III)V"⟩, 11), (⟨"EntryMasters$Tree", "performMoving", "(III)V"⟩, 11), (⟨"EntryMasters$Tree", "performDeleting", "(I)V"⟩, 11), (⟨"EntryMasters", "checkRoomForFilter", "()V"⟩, 6), (⟨"EntryMasters", "isFound", "(LEntryMasters$Tree;III)Z"⟩, 6), (⟨"EntryMasters", "nextInScope", "(LEntryMasters$Tree;III)I"⟩, 6), (⟨"EntryMasters$Tree", "hasSameEntry", "(LEntryMasters$Tree;I)Z"⟩, 11)]
theorem lw_r1 : ∀ q ∈ lw_privs_1, lw_okq q := List.forall_mem_cons.mpr ⟨lw_p0, List.forall_mem_cons.mpr ⟨lw_p1, List.forall_mem_cons.mpr ⟨lw_p2, List.forall_mem_cons.mpr ⟨lw_p3, List.forall_mem_cons.mpr ⟨lw_p4, List.forall_mem_cons.mpr ⟨lw_p5, List.forall_mem_cons.mpr ⟨lw_p6, List.forall_mem_cons.mpr ⟨lw_p7, List.forall_mem_cons.mpr ⟨lw_p8, List.forall_mem_cons.mpr ⟨lw_p9, List.forall_mem_cons.mpr ⟨lw_p10, List.forall_mem_cons.mpr ⟨lw_p11, List.forall_mem_cons.mpr ⟨lw_p12, List.forall_mem_cons.mpr ⟨lw_p13, List.forall_mem_cons.mpr ⟨lw_p14, fun _ h => absurd h List.not_mem_nil⟩⟩⟩⟩⟩⟩⟩⟩⟩⟩⟩⟩⟩⟩⟩
def lw_privs : List (MethodName × Nat) := lw_privs_1
def lw_tbl : List Cond := k2_sels lw_privs ++ tables_1
theorem lw_privs_ok : ∀ q ∈ lw_privs, lw_okq q := lw_r1
-- ===== end of PART A; then your names; then what follows =====
/-! ===== BEGIN words of one list among another's, by their places ===== -/
theorem goodIn_r {big : List Cond} (ws : List Cond) (ps : List Nat) (hp : ws = ps.filterMap (fun i => big[i]?)) (h : ws.all goodWord = true) : GoodIn big ws := by
  intro w hw
  have h1 := List.all_eq_true.mp h w hw
  rw [hp] at hw
  obtain ⟨i, -, hi⟩ := List.mem_filterMap.mp hw
  have hm : w ∈ big := by first | exact List.mem_of_getElem? hi | exact List.getElem?_mem hi
  exact ⟨hm, good_of_word h1⟩
theorem goodIn_app {big a b : List Cond} (ha : GoodIn big a) (hb : GoodIn big b) : GoodIn big (a ++ b) := fun w h => (List.mem_append.mp h).elim (ha w) (hb w)
theorem goodIn_ca {big a b : List Cond} {c : Cond} (ha : GoodIn big (c :: a)) (hb : GoodIn big b) : GoodIn big (c :: (a ++ b)) := fun w h => (List.mem_cons.mp h).elim (fun e => ha w (List.mem_cons.mpr (Or.inl e))) (fun h => (List.mem_append.mp h).elim (fun h => ha w (List.mem_cons.mpr (Or.inr h))) (hb w))
theorem goodIn_sub {big ws : List Cond} (hm : ∀ w ∈ ws, w ∈ big) (h : ws.all goodWord = true) : GoodIn big ws := fun w hw => ⟨hm w hw, good_of_word (List.all_eq_true.mp h w hw)⟩
/-! ===== END ===== -/

/-! ===== BEGIN exceptions that leave a method, and their catching by the caller (launches without stack traces) ===== -/
section VXA
/-! The laws vx_back, vx_callV, vx_callS, vx_callSW, vx_throw0, vx_throwS follow proofs of the library, with one case more: JvmDerived/Free/Laws.lean (Back.of_free), Shelf42/LK1.lean (callV, callS), Shelf/KitTraced.lean (throwNew0V, throwNewS). -/
/-- where a method has thrown q: the class by its name, the cell, what was written, the world -/
def vx_T (XC : String → State → State → Prop) (st : State) (q : Addr) (t : State) (mc ms : Nat) (free : Addr → Prop) : Prop :=
  ∃ (E : String) (ce : Cell) (L : List Loc), XC E st t ∧ t.heap[q]? = some ce ∧ ce.vm = .none ∧ st.vm.findClass E = some ce.cls ∧ st.WarmedH t.vm ∧ st.sameButNew ({ t with vm := st.vm } : State) L mc ms ∧ ∀ z ∈ L, free z.base
def vx_Q (Qc : Array Value → State → Outcome → State → Prop) (XC : String → State → State → Prop) (mc ms : Nat) (free : Addr → Prop) : Array Value → State → Outcome → State → Prop := fun a st o t =>
  (Qc a st o t ∧ ∃ L, FrameEnd st o t L mc ms ∧ ∀ q ∈ L, free q.base) ∨ ∃ q, o = .threw q ∧ vx_T XC st q t mc ms free
/-- a callee that returns or throws -/
def vx_Met (l : Launch) (y : MethodName) (ws : List Cond) (rm : Room) (Pc : Array Value → State → Prop) (Qc : Array Value → State → Outcome → State → Prop) (XC : String → State → State → Prop) (mc ms : Nat) (free : Addr → Prop) : Prop :=
  MetFree l y (headSpec ws rm) Pc (fun _ _ _ _ _ => True) (vx_Q Qc XC mc ms free)
def vx_Post (XC : String → State → State → Prop) (mc ms : Nat) (free : Addr → Prop) : Pt → Array Value → Addr → Pt → Prop := fun A a q B =>
  ∃ (g : JFrame) (mk : MethodId) (t : State) (L : List Loc) (E : String) (ce : Cell), B.U.heap = t.heap ∧ B.U.vm = t.vm ∧ XC E (A.U.calling g mk a) t ∧ t.heap[q]? = some ce ∧ ce.vm = .none ∧ A.U.vm.findClass E = some ce.cls ∧ B.locs = A.locs ++ L ∧ (∀ z ∈ L, free z.base) ∧ B.cells = A.cells + mc ∧ B.slots = A.slots + ms
def vx_Back (l : Launch) (R : Room) (p : Program) (e : Env) (below : List Frame) (s : State) (sargs : Array Value) (y : MethodName) (len W9 : Nat)
    (Pre : Pt → Array Value → Prop) (Post : Pt → Array Value → Option Value → Pt → Prop) (PostX : Pt → Array Value → Addr → Pt → Prop) : Prop :=
  ∀ (m : MethodId) (meth : Method) (c : Code) (A : Pt) (g : JFrame) (ig : Instr) (mk : MethodId) (a : Array Value),
    Stand p l e R s m sargs below meth c A.U A.locs A.cells A.slots → g.method = m → g.locals.size = c.maxLocals → decode c.code g.pc = .ok (ig, len) →
    2 * g.monitorRoom + (g.stack.map fun v => v.category).sum ≤ W9 → A.U.methodNamed? y = some mk → Pre A a →
    (∃ (v : Option Value) (B : Pt), Stand p l e R s m sargs below meth c B.U B.locs B.cells B.slots ∧ Post A a v B ∧
      Steps p.tables e below (doInvoke e (A.U.setTop g) [] mk a).1 (B.U.setTop { g with pc := g.pc + len, stack := v.toList ++ g.stack })) ∨
    (∃ (q : Addr) (B : Pt), Stand p l e R s m sargs below meth c B.U B.locs B.cells B.slots ∧ PostX A a q B ∧
      Steps p.tables e below (doInvoke e (A.U.setTop g) [] mk a).1 ((B.U.setTop g).pushFrame (.throwing q)))
section Payer
variable {l : Launch} {R : Room} {p : Program} {e : Env} {below : List Frame} {s : State} {sargs : Array Value} {y : MethodName} {len W9 : Nat}
theorem vx_back {ws : List Cond} {rm : Room} {Pc : Array Value → State → Prop} {Qc : Array Value → State → Outcome → State → Prop} {XC : String → State → State → Prop} {mc ms : Nat} {free : Addr → Prop} {bytes : ByteArray} {maxL : Nat} {ret : Option FieldType}
    (hM : vx_Met l y ws rm Pc Qc XC mc ms free) (hblind : FrameBlind Pc) (hrc : rm.cells = mc) (hrs : rm.slots = ms)
    (hframes : rm.frames + 1 ≤ R.frames) (hlocals : W9 + (maxL + 11) + rm.locals ≤ R.locals)
    (hws : ∀ w ∈ ws, ∀ a' U, s.WarmedH U.vm → w.before a' U = true) (hcode : Cond.code y bytes maxL ret ∈ ws) (hinit : ∀ a' U, s.WarmedH U.vm → (Cond.initialized y.cls).before a' U = true) :
    vx_Back l R p e below s sargs y len W9 (PreOf R mc ms Pc) (PostOf Qc mc ms free) (vx_Post XC mc ms free) := by
  intro m meth c A g ig mk a X hg hsize hdg hW hn hp
  have h1 : (headSpec ws rm).pre.before a A.U = true := atoms_intro fun w hw => hws w hw _ _ X.warmed
  have h2 : (Cond.code y bytes maxL ret).before a A.U = true := hws _ hcode _ _ X.warmed
  have h3 : (Cond.initialized y.cls).before a A.U = true := hinit _ _ X.warmed
  have h4 : A.cells + (headSpec ws rm).room.cells ≤ R.cells := by rw [show (headSpec ws rm).room.cells = mc from hrc]; exact hp.1
  have h5 : A.slots + (headSpec ws rm).room.slots ≤ R.slots := by rw [show (headSpec ws rm).room.slots = ms from hrs]; exact hp.2.1
  have hPc : Pc a (A.U.calling g mk a) := hblind _ _ _ _ hp.2.2
  obtain ⟨U, Ls, c0, s0⟩ := A
  dsimp only [Pt.U, Pt.locs, Pt.cells, Pt.slots] at h1 h2 h3 h4 h5 X hn hPc ⊢
  obtain ⟨methY, cY, hmY, hcY, -, hlY, -, -, -, -⟩ := Cond.code_spec hn h2
  obtain ⟨kY, hkY, -⟩ := className_of_methodNamed hn
  have hinitY : kY.init = .initialized := Cond.initialized_spec (findClass_of_methodNamed hn) hkY h3
  have h : At U g.method c below := by rw [hg]; exact X.here
  have hlocals9 : W9 + (maxL + 11) + (headSpec ws rm).room.locals ≤ R.locals := hlocals
  have happ : (headSpec ws rm).appliesLoose y e.platform (U.calling g mk a) = true :=
    Spec.appliesLoose_calling (g := g) h hdg hn hkY hinitY
      (X.room_calling (g := g) (R' := (headSpec ws rm).room) hsize hmY hcY hframes (by rw [hlY]; omega) h4 h5) h1
  obtain ⟨mid, hmid⟩ := h.above
  have hfr : (U.setTop g).frames = (.java g :: mid) ++ below := by rw [State.frames_setTop' g h.top, hmid]; rfl
  obtain ⟨o, s₂, hsteps, -, hend, hq⟩ := Steps.callFree hM p X.admits X.cas X.clock (acts := []) hfr happ hPc trivial
  have hq' : vx_Q Qc XC mc ms free a (U.calling g mk a) o s₂ := hq
  rw [State.frames_setTop' g h.top] at hend
  obtain ⟨g₀, hg0⟩ := Option.isSome_iff_exists.mp h.top
  obtain ⟨r, hr⟩ := State.topJava?_eq_some.mp hg0
  have hr' : (({ U with heap := s₂.heap, slotsUsed := s₂.slotsUsed } : State).setVm s₂.vm).frames = .java g₀ :: r := hr
  rcases hq' with ⟨hqc, L, hfe, hL⟩ | ⟨q, rfl, E, ce, L, hx, hce, hcv, hcl, hW₂, hsm, hL⟩
  · obtain ⟨⟨v, rfl⟩, hW₂, e2, q2, q3, q4, q5, q6⟩ := id hfe
    have e3 : s₂ = ({ (U.calling g mk a).setFrames s₂.frames with heap := s₂.heap, slotsUsed := s₂.slotsUsed } : State).setVm s₂.vm := by
      have : s₂ = ({ s₂ with vm := (U.calling g mk a).vm } : State).setVm s₂.vm := rfl
      rw [e2] at this
      exact this
    obtain ⟨c₂, i₂, len₂, hc₂, hd₂, hf₂⟩ := hend
    have hW' : U.WarmedH s₂.vm := hW₂
    have hcc : c₂ = c := by
      have h1 : s₂.code? g.method = U.code? g.method := by
        rw [State.code?_eq, State.code?_eq, hW'.alike.method?]
      exact Option.some.inj (hc₂.symm.trans (h1.trans h.code))
    subst hcc
    have hlen : len₂ = len := by rw [hdg] at hd₂; cases hd₂; rfl
    subst hlen
    have hs₂ : s₂ = (({ U with heap := s₂.heap, slotsUsed := s₂.slotsUsed } : State).setVm s₂.vm).setTop { g with pc := g.pc + len₂, stack := v.toList ++ g.stack } := by
      refine e3.trans ?_
      rw [hf₂, State.calling_eq h.top, State.setFrames_setFrames, State.setTop_of_frames _ hr', hr]
      rfl
    have hsame : U.sameButNew ({ U with heap := s₂.heap, slotsUsed := s₂.slotsUsed } : State) L mc ms := by
      refine ⟨?_, q2, q3, q4, q5, q6⟩
      obtain ⟨t, ht, -⟩ := State.frames_cons hr
      show ({ U with heap := s₂.heap, slotsUsed := s₂.slotsUsed } : State) = { U.setFrames U.frames with heap := s₂.heap, slotsUsed := s₂.slotsUsed }
      rw [State.setFrames_self ht]
    subst hg
    refine Or.inl ⟨v, ⟨(({ U with heap := s₂.heap, slotsUsed := s₂.slotsUsed } : State).setVm s₂.vm), Ls ++ L, c0 + mc, s0 + ms⟩,
      ⟨X.admits, X.cas, X.clock, X.frames, X.room, X.hears, X.method, X.code, (X.here.setHeapUsed s₂.heap s₂.slotsUsed).setVm hW'.alike, X.tail, State.WarmedH.trans X.warmed hW', X.limits, X.bytes, X.same.trans (hsame.setVm s.vm)⟩,
      ⟨g, mk, s₂, L, rfl, rfl, hqc, rfl, hL, rfl, rfl⟩, ?_⟩
    show Steps p.tables e below _ ((({ U with heap := s₂.heap, slotsUsed := s₂.slotsUsed } : State).setVm s₂.vm).setTop { g with pc := g.pc + len₂, stack := v.toList ++ g.stack })
    rw [← hs₂]
    exact hsteps
  · obtain ⟨e2, q2, q3, q4, q5, q6⟩ := id hsm
    have e3 : s₂ = ({ (U.calling g mk a).setFrames s₂.frames with heap := s₂.heap, slotsUsed := s₂.slotsUsed } : State).setVm s₂.vm := by
      have : s₂ = ({ s₂ with vm := (U.calling g mk a).vm } : State).setVm s₂.vm := rfl
      rw [e2] at this
      exact this
    have hf₂ : s₂.frames = .throwing q :: .java g :: U.frames.tail := hend
    have hW' : U.WarmedH s₂.vm := hW₂
    have hs₂ : s₂ = ((({ U with heap := s₂.heap, slotsUsed := s₂.slotsUsed } : State).setVm s₂.vm).setTop g).pushFrame (.throwing q) := by
      refine e3.trans ?_
      rw [hf₂, State.calling_eq h.top, State.setFrames_setFrames, State.pushFrame, State.frames_setTop _ hr', State.setTop_of_frames _ hr', State.setFrames_setFrames, hr]
      rfl
    have hsame : U.sameButNew ({ U with heap := s₂.heap, slotsUsed := s₂.slotsUsed } : State) L mc ms := by
      refine ⟨?_, q2, q3, q4, q5, q6⟩
      obtain ⟨t, ht, -⟩ := State.frames_cons hr
      show ({ U with heap := s₂.heap, slotsUsed := s₂.slotsUsed } : State) = { U.setFrames U.frames with heap := s₂.heap, slotsUsed := s₂.slotsUsed }
      rw [State.setFrames_self ht]
    subst hg
    refine Or.inr ⟨q, ⟨(({ U with heap := s₂.heap, slotsUsed := s₂.slotsUsed } : State).setVm s₂.vm), Ls ++ L, c0 + mc, s0 + ms⟩,
      ⟨X.admits, X.cas, X.clock, X.frames, X.room, X.hears, X.method, X.code, (X.here.setHeapUsed s₂.heap s₂.slotsUsed).setVm hW'.alike, X.tail, State.WarmedH.trans X.warmed hW', X.limits, X.bytes, X.same.trans (hsame.setVm s.vm)⟩,
      ⟨g, mk, s₂, L, E, ce, rfl, rfl, hx, hce, hcv, hcl, rfl, hL, rfl, rfl⟩, ?_⟩
    show Steps p.tables e below _ (((({ U with heap := s₂.heap, slotsUsed := s₂.slotsUsed } : State).setVm s₂.vm).setTop g).pushFrame (.throwing q))
    rw [← hs₂]
    exact hsteps
end Payer
section Calls
variable {p : Program} {l : Launch} {e : Env} {R : Room} {s : State} {m : MethodId} {args : Array Value} {below : List Frame} {meth : Method} {c : Code} {T : State} {locs : List Loc} {cells slots : Nat}
theorem vx_callV (X : Stand p l e R s m args below meth c T locs cells slots) (hexec : p.tables.exec = Jvm.exec) {own C : String} {index : Nat} {y : MethodName} {bytes : ByteArray} {maxL : Nat} {ret : Option FieldType}
    (hown : s.vm.findClass own = some m.cls) (hlink : (Cond.methodLink own index y).before args s = true) (hinst : (Cond.instanceMethod y).before args s = true) (hsel : (Cond.selects C y y).before args s = true)
    (hcode : (Cond.code y bytes maxL ret).before args s = true) (hy : y.cls ≠ "java/lang/invoke/MethodHandle" ∧ y.cls ≠ "java/lang/invoke/VarHandle")
    {W9 : Nat} {Pre : Pt → Array Value → Prop} {Post : Pt → Array Value → Option Value → Pt → Prop} {PostX : Pt → Array Value → Addr → Pt → Prop} (hK : vx_Back l R p e below s args y 3 W9 Pre Post PostX)
    {b : Addr} {cellB : Cell} (hcell : T.heap[b]? = some cellB) (hobj : cellB.vm.isStatics = false) (hcls : s.vm.findClass C = some cellB.cls)
    {g : JFrame} (hg : g.method = m) (hsize : g.locals.size = c.maxLocals) {argsL rest : List Value} (hlen : ∀ sig, parseMethodDescriptor y.desc = some sig → argsL.length = sig.parameters.length)
    (hstack : g.stack = argsL.reverse ++ .ref b :: rest) (hW : 2 * g.monitorRoom + (rest.map fun v => v.category).sum ≤ W9) (hdg : decode c.code g.pc = .ok (.invokevirtual index, 3))
    (hpre : ∀ vm₁, s.WarmedH vm₁ → Pre ⟨T.setVm vm₁, locs, cells, slots⟩ (Value.ref b :: argsL).toArray) :
    (∃ (v : Option Value) (vm₁ : Vm) (B : Pt), s.WarmedH vm₁ ∧ Stand p l e R s m args below meth c B.U B.locs B.cells B.slots ∧ Post ⟨T.setVm vm₁, locs, cells, slots⟩ (Value.ref b :: argsL).toArray v B ∧
      ∀ target, Steps p.tables e below (B.U.setTop { g with pc := g.pc + 3, stack := v.toList ++ rest }) target → Steps p.tables e below (T.setTop g) target) ∨
    (∃ (q : Addr) (vm₁ : Vm) (B : Pt), s.WarmedH vm₁ ∧ Stand p l e R s m args below meth c B.U B.locs B.cells B.slots ∧ PostX ⟨T.setVm vm₁, locs, cells, slots⟩ (Value.ref b :: argsL).toArray q B ∧
      Steps p.tables e below (T.setTop g) ((B.U.setTop { g with stack := rest }).pushFrame (.throwing q))) := by
  obtain ⟨mk, methM, hnamed, hmethM, hstM, habM⟩ := Cond.instanceMethod_spec hinst
  obtain ⟨methM', cM, hmethM', -, -, -, -, -, -, hsigM⟩ := Cond.code_spec hnamed hcode
  cases hmethM.symm.trans hmethM'
  obtain ⟨c2, r2, m2, q1, q2, q3, q4, kP, hkP, hkPi⟩ := Cond.selects_spec hsel
  cases hcls.symm.trans q1
  cases (State.methodFound?_of_named hnamed hy).symm.trans q2
  cases hnamed.symm.trans q3
  have hselP : selectMethod e.platform s.vm cellB.cls mk = .method mk := by rw [Launch.admits_selectMethod X.admits]; exact q4
  obtain ⟨vm₁, X₁, hstep₁⟩ := X.invokevirtual hexec hown hlink hnamed hmethM hstM hkP hkPi hy (a := b) (cell := cellB) hcell
    (fun z h => by rw [h] at hobj; cases hobj) hselP hmethM habM hkP hkPi (g := g) hg (argsL := argsL) (rest := rest) (hlen _ hsigM) hstack hdg
  rcases hK m meth c ⟨T.setVm vm₁, locs, cells, slots⟩ { g with stack := rest } (.invokevirtual index) mk (Value.ref b :: argsL).toArray X₁ hg hsize hdg hW (X₁.named hnamed) (hpre vm₁ X₁.warmed) with ⟨v, B, X', hpost, hsteps⟩ | ⟨q, B, X', hpost, hsteps⟩
  · exact Or.inl ⟨v, vm₁, B, X₁.warmed, X', hpost, fun target h => hstep₁ _ fun acts => by rw [doInvoke_state]; exact hsteps.trans h⟩
  · exact Or.inr ⟨q, vm₁, B, X₁.warmed, X', hpost, hstep₁ _ fun acts => by rw [doInvoke_state]; exact hsteps⟩
theorem vx_callS (X : Stand p l e R s m args below meth c T locs cells slots) (hexec : p.tables.exec = Jvm.exec) {own : String} {index : Nat} {y : MethodName} {bytes : ByteArray} {maxL : Nat} {ret : Option FieldType}
    (hown : s.vm.findClass own = some m.cls) (hlink : (Cond.methodLink own index y).before args s = true) (hstat : (Cond.static y).before args s = true) (hinit : (Cond.initialized y.cls).before args s = true)
    (hcode : (Cond.code y bytes maxL ret).before args s = true) (hy : y.cls ≠ "java/lang/invoke/MethodHandle" ∧ y.cls ≠ "java/lang/invoke/VarHandle")
    {W9 : Nat} {Pre : Pt → Array Value → Prop} {Post : Pt → Array Value → Option Value → Pt → Prop} {PostX : Pt → Array Value → Addr → Pt → Prop} (hK : vx_Back l R p e below s args y 3 W9 Pre Post PostX)
    {g : JFrame} (hg : g.method = m) (hsize : g.locals.size = c.maxLocals) {argsL rest : List Value} (hlen : ∀ sig, parseMethodDescriptor y.desc = some sig → argsL.length = sig.parameters.length)
    (hstack : g.stack = argsL.reverse ++ rest) (hW : 2 * g.monitorRoom + (rest.map fun v => v.category).sum ≤ W9) (hdg : decode c.code g.pc = .ok (.invokestatic index, 3))
    (hpre : ∀ vm₁, s.WarmedH vm₁ → Pre ⟨T.setVm vm₁, locs, cells, slots⟩ argsL.toArray) :
    (∃ (v : Option Value) (vm₁ : Vm) (B : Pt), s.WarmedH vm₁ ∧ Stand p l e R s m args below meth c B.U B.locs B.cells B.slots ∧ Post ⟨T.setVm vm₁, locs, cells, slots⟩ argsL.toArray v B ∧
      ∀ target, Steps p.tables e below (B.U.setTop { g with pc := g.pc + 3, stack := v.toList ++ rest }) target → Steps p.tables e below (T.setTop g) target) ∨
    (∃ (q : Addr) (vm₁ : Vm) (B : Pt), s.WarmedH vm₁ ∧ Stand p l e R s m args below meth c B.U B.locs B.cells B.slots ∧ PostX ⟨T.setVm vm₁, locs, cells, slots⟩ argsL.toArray q B ∧
      Steps p.tables e below (T.setTop g) ((B.U.setTop { g with stack := rest }).pushFrame (.throwing q))) := by
  obtain ⟨mk, hnamed⟩ := Cond.code_named hcode
  obtain ⟨methM, cM, hmethM, -, -, -, -, -, -, hsigM⟩ := Cond.code_spec hnamed hcode
  have hstatic : methM.isStatic = true := Cond.static_spec hnamed hmethM hstat
  obtain ⟨kP, hkP, -⟩ := className_of_methodNamed hnamed
  have hinitP : kP.init = .initialized := Cond.initialized_spec (findClass_of_methodNamed hnamed) hkP hinit
  obtain ⟨vm₁, X₁, hstep₁⟩ := X.invokestatic hexec hown hlink hnamed hmethM hstatic hkP hinitP hy (g := g) hg (argsL := argsL) (rest := rest) (hlen _ hsigM) hstack hdg
  rcases hK m meth c ⟨T.setVm vm₁, locs, cells, slots⟩ { g with stack := rest } (.invokestatic index) mk argsL.toArray X₁ hg hsize hdg hW (X₁.named hnamed) (hpre vm₁ X₁.warmed) with ⟨v, B, X', hpost, hsteps⟩ | ⟨q, B, X', hpost, hsteps⟩
  · exact Or.inl ⟨v, vm₁, B, X₁.warmed, X', hpost, fun target h => hstep₁ _ fun acts => by rw [doInvoke_state]; exact hsteps.trans h⟩
  · exact Or.inr ⟨q, vm₁, B, X₁.warmed, X', hpost, hstep₁ _ fun acts => by rw [doInvoke_state]; exact hsteps⟩
end Calls
theorem vx_cls {s : State} {T : State} {vm₁ : Vm} {E : String} {k : ClassId} (hW : s.WarmedH vm₁) (h : (T.setVm vm₁).vm.findClass E = some k) : s.vm.findClass E = some k := by
  have h1 : vm₁.findClass E = some k := h
  rw [hW.alike.findClass] at h1
  exact h1
/-- the method's frame g, with q thrown over it -/
def vx_W (p : Program) (l : Launch) (e : Env) (R : Room) (s : State) (m : MethodId) (args : Array Value) (below : List Frame) (meth : Method) (c : Code) (H : Heap) (locs : List Loc) (cells slots : Nat) (Q : State → Prop) (g : JFrame) (q : Addr) : Prop :=
  ∀ T : State, T.heap = H → Stand p l e R s m args below meth c T locs cells slots → ∃ t, Steps p.tables e below ((T.setTop g).pushFrame (.throwing q)) t ∧ Q t
def vx_Run (p : Program) (l : Launch) (e : Env) (R : Room) (s : State) (m : MethodId) (args : Array Value) (below : List Frame) (meth : Method) (c : Code) (H : Heap) (locs : List Loc) (cells slots mc ms : Nat) (g : JFrame) (rest : List Value) (Qa : State → Outcome → State → Prop) (XC : String → State → State → Prop) (free : Addr → Prop) : Prop :=
  ∀ T : State, T.heap = H → Stand p l e R s m args below meth c T locs cells slots →
    (∃ (v : Option Value) (st₀ t T' : State) (L : List Loc), st₀.heap = H ∧ Stand p l e R s m args below meth c T' (locs ++ L) (cells + mc) (slots + ms) ∧ (∀ q ∈ L, free q.base) ∧ T'.heap = t.heap ∧ T'.vm = t.vm ∧ Qa st₀ (.returned v) t ∧
      Goes p e below T g T' { g with pc := g.pc + 3, stack := v.toList ++ rest }) ∨
    (∃ (q : Addr) (st₀ t T' : State) (L : List Loc) (E : String) (ce : Cell), st₀.heap = H ∧ Stand p l e R s m args below meth c T' (locs ++ L) (cells + mc) (slots + ms) ∧ (∀ z ∈ L, free z.base) ∧ T'.heap = t.heap ∧ T'.vm = t.vm ∧ XC E st₀ t ∧ t.heap[q]? = some ce ∧ ce.vm = .none ∧ s.vm.findClass E = some ce.cls ∧
      Steps p.tables e below (T.setTop g) ((T'.setTop { g with stack := rest }).pushFrame (.throwing q)))
def vx_X {S : Type} (px : S → Prop) (B : String → S → State → Prop) (A : Nat → Prop) : String → State → State → Prop := fun E st t => ∃ u : S, px u ∧ B E u t ∧ va_F A st t
section Runs
variable {p : Program} {l : Launch} {e : Env} {R : Room} {s : State} {m : MethodId} {args : Array Value} {below : List Frame} {meth : Method} {c : Code} {H : Heap} {locs : List Loc} {cells slots : Nat}
variable {y : MethodName} {bytes cc : ByteArray} {maxL nL mc ms n index : Nat} {ret : Option FieldType} {ws : List Cond} {rm : Room} {Pc : Array Value → State → Prop} {Qc : Array Value → State → Outcome → State → Prop} {XC : String → State → State → Prop} {free : Addr → Prop} {Ts : List Cond} {own C : String} {b : Addr} {As rest : List Value} {g : JFrame}
theorem vx_callBack (cb : CallB R s args own index y bytes maxL ret ws rm mc ms n) (hM : vx_Met l y ws rm Pc Qc XC mc ms free) (hbl : FrameBlind Pc) : vx_Back l R p e below s args y 3 8 (PreOf R mc ms Pc) (PostOf Qc mc ms free) (vx_Post XC mc ms free) := by
  obtain ⟨hrc, hrs, hfr, hlo, hws, hcw, -, hini, -⟩ := cb
  exact vx_back (bytes := bytes) (maxL := maxL) (ret := ret) hM hbl hrc hrs hfr hlo hws hcw (fun a' U hW => word_at hW (Or.inl (by first | rfl | simp [Cond.onTables, Cond.keeps, Cond.steady])) hini)
theorem vx_runV (S : CallFix p m c cc nL s args Ts own) (hM : vx_Met l y ws rm Pc Qc XC mc ms free) (cw : CallW R s args own C index y bytes maxL ret ws rm mc ms n) (hp : PreV s H C b Pc As)
    (hg : g.method = m) (hn : As.length = n) (hsize : g.locals.size = nL) (hstack : g.stack = As.reverse ++ .ref b :: rest) (hW : 2 * g.monitorRoom + (rest.map fun v => v.category).sum ≤ 8) (hdg : decode cc g.pc = .ok (.invokevirtual index, 3)) (hf : cells + mc ≤ R.cells ∧ slots + ms ≤ R.slots) :
    vx_Run p l e R s m args below meth c H locs cells slots mc ms g rest (Qc (Value.ref b :: As).toArray) XC free := by
  have hK : vx_Back l R p e below s args y 3 8 (PreOf R mc ms Pc) (PostOf Qc mc ms free) (vx_Post XC mc ms free) := vx_callBack cw.1 hM hp.1
  obtain ⟨⟨-, -, -, -, -, -, hcode, -, hy, hlen, hl⟩, hin, hse⟩ := cw
  obtain ⟨hx, hb, hml, ho, -⟩ := S
  obtain ⟨-, ⟨cellB, hcB, hoB, hclB⟩, hPc⟩ := hp
  intro T hT X
  rcases vx_callV X hx (C := C) (bytes := bytes) (maxL := maxL) (ret := ret) ho hl hin hse hcode hy hK (by rw [hT]; exact hcB) hoB hclB hg (hsize.trans hml.symm) (argsL := As) (rest := rest) (fun sig h => hn.trans (hlen sig h)) hstack hW (by rw [hb]; exact hdg)
    (fun vm₁ hW₁ => ⟨hf.1, hf.2, hPc (T.setVm vm₁) hT hW₁⟩) with ⟨v, vm₁, ⟨U', l2, c2, s2⟩, hW₁, X', ⟨g', mk, t, L, e1, e2, hq, h1, hL, h2, h3⟩, st⟩ | ⟨q, vm₁, ⟨U', l2, c2, s2⟩, hW₁, X', ⟨g', mk, t, L, E, ce, e1, e2, hq, hce, hcv, hcl, h1, hL, h2, h3⟩, st⟩
  · dsimp only [Pt.U, Pt.locs, Pt.cells, Pt.slots] at X' e1 e2 h1 h2 h3 st
    subst h1; subst h2; subst h3
    exact Or.inl ⟨v, (T.setVm vm₁).calling g' mk (Value.ref b :: As).toArray, t, U', L, hT, X', hL, e1, e2, hq, st⟩
  · dsimp only [Pt.U, Pt.locs, Pt.cells, Pt.slots] at X' e1 e2 h1 h2 h3 st hcl
    subst h1; subst h2; subst h3
    exact Or.inr ⟨q, (T.setVm vm₁).calling g' mk (Value.ref b :: As).toArray, t, U', L, E, ce, hT, X', hL, e1, e2, hq, hce, hcv, vx_cls hW₁ hcl, st⟩
theorem vx_runS (S : CallFix p m c cc nL s args Ts own) (hM : vx_Met l y ws rm Pc Qc XC mc ms free) (cw : CallB R s args own index y bytes maxL ret ws rm mc ms n ∧ (Cond.static y).before args s = true) (hp : PreS s H Pc As)
    (hg : g.method = m) (hn : As.length = n) (hsize : g.locals.size = nL) (hstack : g.stack = As.reverse ++ rest) (hW : 2 * g.monitorRoom + (rest.map fun v => v.category).sum ≤ 8) (hdg : decode cc g.pc = .ok (.invokestatic index, 3)) (hf : cells + mc ≤ R.cells ∧ slots + ms ≤ R.slots) :
    vx_Run p l e R s m args below meth c H locs cells slots mc ms g rest (Qc As.toArray) XC free := by
  have hK : vx_Back l R p e below s args y 3 8 (PreOf R mc ms Pc) (PostOf Qc mc ms free) (vx_Post XC mc ms free) := vx_callBack cw.1 hM hp.1
  obtain ⟨⟨-, -, -, -, -, -, hcode, hini, hy, hlen, hl⟩, hstt⟩ := cw
  obtain ⟨hx, hb, hml, ho, -⟩ := S
  intro T hT X
  rcases vx_callS X hx (bytes := bytes) (maxL := maxL) (ret := ret) ho hl hstt hini hcode hy hK hg (hsize.trans hml.symm) (argsL := As) (rest := rest) (fun sig h => hn.trans (hlen sig h)) hstack hW (by rw [hb]; exact hdg)
    (fun vm₁ hW₁ => ⟨hf.1, hf.2, hp.2 (T.setVm vm₁) hT hW₁⟩) with ⟨v, vm₁, ⟨U', l2, c2, s2⟩, hW₁, X', ⟨g', mk, t, L, e1, e2, hq, h1, hL, h2, h3⟩, st⟩ | ⟨q, vm₁, ⟨U', l2, c2, s2⟩, hW₁, X', ⟨g', mk, t, L, E, ce, e1, e2, hq, hce, hcv, hcl, h1, hL, h2, h3⟩, st⟩
  · dsimp only [Pt.U, Pt.locs, Pt.cells, Pt.slots] at X' e1 e2 h1 h2 h3 st
    subst h1; subst h2; subst h3
    exact Or.inl ⟨v, (T.setVm vm₁).calling g' mk As.toArray, t, U', L, hT, X', hL, e1, e2, hq, st⟩
  · dsimp only [Pt.U, Pt.locs, Pt.cells, Pt.slots] at X' e1 e2 h1 h2 h3 st hcl
    subst h1; subst h2; subst h3
    exact Or.inr ⟨q, (T.setVm vm₁).calling g' mk As.toArray, t, U', L, E, ce, hT, X', hL, e1, e2, hq, hce, hcv, vx_cls hW₁ hcl, st⟩
end Runs
section Rows
variable {p : Program} {l : Launch} {e : Env} {R : Room} {s : State} {m : MethodId} {args : Array Value} {below : List Frame} {meth : Method} {c : Code} {H : Heap} {locs : List Loc} {cells slots : Nat} {Q : State → Prop}
variable {mc ms : Nat} {free : Addr → Prop} {A0 A1 : Nat → Prop} {H0 : Heap} {a : Array Value} {pc : Nat} {ls : Array Slot} {st0 rest : List Value}
theorem vx_keep {st₀ t T' : State} {L : List Loc} (h0 : st₀.heap = H) (e1 : T'.heap = t.heap) (hS : va_S A0 H0 H locs) (hA : ∀ q, q < H.size → A1 q → A0 q) (hf : ∀ q, free q → A0 q) (hL : ∀ q ∈ L, free q.base) (hF : va_F A1 st₀ t) :
    H.size ≤ T'.heap.size ∧ (∀ q : Nat, q < H.size → ¬ A1 q → T'.heap[q]? = H[q]?) ∧ va_S A0 H0 T'.heap (locs ++ L) := by
  obtain ⟨hz, hk⟩ := hF
  rw [h0] at hz hk
  exact ⟨by rw [e1]; exact hz, fun q h1 h2 => by rw [e1]; exact hk q h1 h2,
    ⟨Nat.le_trans hS.1 (by rw [e1]; exact hz), fun q h1 h2 => by rw [e1, hk q (Nat.lt_of_lt_of_le h1 hS.1) (fun z => h2 (hA q (Nat.lt_of_lt_of_le h1 hS.1) z))]; exact hS.2.1 q h1 h2, fun q hq => by
      rcases List.mem_append.mp hq with h | h
      · exact hS.2.2 q h
      · exact hf _ (hL q h)⟩⟩
theorem vx_calli {S SX : Type} {post : Int32 → S → Prop} {px : SX → Prop} {B : S → State → Prop} {BX : String → SX → State → Prop} {AX : Nat → Prop} (hr : vx_Run p l e R s m args below meth c H locs cells slots mc ms (F0 m pc ls st0) rest (va_Qi post B A1 a) (vx_X px BX AX) free) (hS : va_S A0 H0 H locs) (hA : ∀ q, q < H.size → A1 q → A0 q) (hf : ∀ q, free q → A0 q) (hAX : ∀ q, q < H.size → AX q → A0 q)
    (kx : ∀ (E : String) (ce : Cell) (q9 : Addr) (u : SX) (t : State) (H1 : Heap) (locs1 : List Loc), t.heap = H1 → s.vm.Alike t.vm → px u → BX E u t → H.size ≤ H1.size → (∀ q : Nat, q < H.size → ¬ AX q → H1[q]? = H[q]?) → va_S A0 H0 H1 locs1 → H1[q9]? = some ce → ce.vm = .none → s.vm.findClass E = some ce.cls → vx_W p l e R s m args below meth c H1 locs1 (cells + mc) (slots + ms) Q (F0 m pc ls rest) q9)
    (kk : ∀ (r : Int32) (u : S) (t : State) (H1 : Heap) (locs1 : List Loc), t.heap = H1 → s.vm.Alike t.vm → post r u → B u t → H.size ≤ H1.size → (∀ q : Nat, q < H.size → ¬ A1 q → H1[q]? = H[q]?) → va_S A0 H0 H1 locs1 → W p l e R s m args below meth c H1 locs1 (cells + mc) (slots + ms) Q (F0 m (pc + 3) ls (.int r :: rest))) : W p l e R s m args below meth c H locs cells slots Q (F0 m pc ls st0) := by
  intro T hT X
  rcases hr T hT X with ⟨v, st₀, t, T', L, h0, X', hL, e1, e2, ⟨⟨r, u, hv, hp, hb⟩, hF⟩, st⟩ | ⟨q, st₀, t, T', L, E, ce, h0, X', hL, e1, e2, ⟨u, hp, hb, hF⟩, hce, hcv, hcl, st⟩
  · cases hv
    obtain ⟨k1, k2, k3⟩ := vx_keep h0 e1 hS hA hf hL hF
    obtain ⟨t2, a1, b1⟩ := kk r u t T'.heap (locs ++ L) e1.symm (by rw [← e2]; exact X'.warmed.alike) hp hb k1 k2 k3 T' rfl X'
    exact ⟨t2, st t2 a1, b1⟩
  · obtain ⟨k1, k2, k3⟩ := vx_keep h0 e1 hS hAX hf hL hF
    obtain ⟨t2, a1, b1⟩ := kx E ce q u t T'.heap (locs ++ L) e1.symm (by rw [← e2]; exact X'.warmed.alike) hp hb k1 k2 k3 (by rw [e1]; exact hce) hcv hcl T' rfl X'
    exact ⟨t2, st.trans a1, b1⟩
theorem vx_calll {S SX : Type} {post : Int64 → S → Prop} {px : SX → Prop} {B : S → State → Prop} {BX : String → SX → State → Prop} {AX : Nat → Prop} (hr : vx_Run p l e R s m args below meth c H locs cells slots mc ms (F0 m pc ls st0) rest (va_Ql post B A1 a) (vx_X px BX AX) free) (hS : va_S A0 H0 H locs) (hA : ∀ q, q < H.size → A1 q → A0 q) (hf : ∀ q, free q → A0 q) (hAX : ∀ q, q < H.size → AX q → A0 q)
    (kx : ∀ (E : String) (ce : Cell) (q9 : Addr) (u : SX) (t : State) (H1 : Heap) (locs1 : List Loc), t.heap = H1 → s.vm.Alike t.vm → px u → BX E u t → H.size ≤ H1.size → (∀ q : Nat, q < H.size → ¬ AX q → H1[q]? = H[q]?) → va_S A0 H0 H1 locs1 → H1[q9]? = some ce → ce.vm = .none → s.vm.findClass E = some ce.cls → vx_W p l e R s m args below meth c H1 locs1 (cells + mc) (slots + ms) Q (F0 m pc ls rest) q9)
    (kk : ∀ (r : Int64) (u : S) (t : State) (H1 : Heap) (locs1 : List Loc), t.heap = H1 → s.vm.Alike t.vm → post r u → B u t → H.size ≤ H1.size → (∀ q : Nat, q < H.size → ¬ A1 q → H1[q]? = H[q]?) → va_S A0 H0 H1 locs1 → W p l e R s m args below meth c H1 locs1 (cells + mc) (slots + ms) Q (F0 m (pc + 3) ls (.long r :: rest))) : W p l e R s m args below meth c H locs cells slots Q (F0 m pc ls st0) := by
  intro T hT X
  rcases hr T hT X with ⟨v, st₀, t, T', L, h0, X', hL, e1, e2, ⟨⟨r, u, hv, hp, hb⟩, hF⟩, st⟩ | ⟨q, st₀, t, T', L, E, ce, h0, X', hL, e1, e2, ⟨u, hp, hb, hF⟩, hce, hcv, hcl, st⟩
  · cases hv
    obtain ⟨k1, k2, k3⟩ := vx_keep h0 e1 hS hA hf hL hF
    obtain ⟨t2, a1, b1⟩ := kk r u t T'.heap (locs ++ L) e1.symm (by rw [← e2]; exact X'.warmed.alike) hp hb k1 k2 k3 T' rfl X'
    exact ⟨t2, st t2 a1, b1⟩
  · obtain ⟨k1, k2, k3⟩ := vx_keep h0 e1 hS hAX hf hL hF
    obtain ⟨t2, a1, b1⟩ := kx E ce q u t T'.heap (locs ++ L) e1.symm (by rw [← e2]; exact X'.warmed.alike) hp hb k1 k2 k3 (by rw [e1]; exact hce) hcv hcl T' rfl X'
    exact ⟨t2, st.trans a1, b1⟩
theorem vx_callf {S SX : Type} {post : UInt32 → S → Prop} {px : SX → Prop} {B : S → State → Prop} {BX : String → SX → State → Prop} {AX : Nat → Prop} (hr : vx_Run p l e R s m args below meth c H locs cells slots mc ms (F0 m pc ls st0) rest (va_Qf post B A1 a) (vx_X px BX AX) free) (hS : va_S A0 H0 H locs) (hA : ∀ q, q < H.size → A1 q → A0 q) (hf : ∀ q, free q → A0 q) (hAX : ∀ q, q < H.size → AX q → A0 q)
    (kx : ∀ (E : String) (ce : Cell) (q9 : Addr) (u : SX) (t : State) (H1 : Heap) (locs1 : List Loc), t.heap = H1 → s.vm.Alike t.vm → px u → BX E u t → H.size ≤ H1.size → (∀ q : Nat, q < H.size → ¬ AX q → H1[q]? = H[q]?) → va_S A0 H0 H1 locs1 → H1[q9]? = some ce → ce.vm = .none → s.vm.findClass E = some ce.cls → vx_W p l e R s m args below meth c H1 locs1 (cells + mc) (slots + ms) Q (F0 m pc ls rest) q9)
    (kk : ∀ (r : UInt32) (u : S) (t : State) (H1 : Heap) (locs1 : List Loc), t.heap = H1 → s.vm.Alike t.vm → post r u → B u t → H.size ≤ H1.size → (∀ q : Nat, q < H.size → ¬ A1 q → H1[q]? = H[q]?) → va_S A0 H0 H1 locs1 → W p l e R s m args below meth c H1 locs1 (cells + mc) (slots + ms) Q (F0 m (pc + 3) ls (.float r :: rest))) : W p l e R s m args below meth c H locs cells slots Q (F0 m pc ls st0) := by
  intro T hT X
  rcases hr T hT X with ⟨v, st₀, t, T', L, h0, X', hL, e1, e2, ⟨⟨r, u, hv, hp, hb⟩, hF⟩, st⟩ | ⟨q, st₀, t, T', L, E, ce, h0, X', hL, e1, e2, ⟨u, hp, hb, hF⟩, hce, hcv, hcl, st⟩
  · cases hv
    obtain ⟨k1, k2, k3⟩ := vx_keep h0 e1 hS hA hf hL hF
    obtain ⟨t2, a1, b1⟩ := kk r u t T'.heap (locs ++ L) e1.symm (by rw [← e2]; exact X'.warmed.alike) hp hb k1 k2 k3 T' rfl X'
    exact ⟨t2, st t2 a1, b1⟩
  · obtain ⟨k1, k2, k3⟩ := vx_keep h0 e1 hS hAX hf hL hF
    obtain ⟨t2, a1, b1⟩ := kx E ce q u t T'.heap (locs ++ L) e1.symm (by rw [← e2]; exact X'.warmed.alike) hp hb k1 k2 k3 (by rw [e1]; exact hce) hcv hcl T' rfl X'
    exact ⟨t2, st.trans a1, b1⟩
theorem vx_calld {S SX : Type} {post : UInt64 → S → Prop} {px : SX → Prop} {B : S → State → Prop} {BX : String → SX → State → Prop} {AX : Nat → Prop} (hr : vx_Run p l e R s m args below meth c H locs cells slots mc ms (F0 m pc ls st0) rest (va_Qd post B A1 a) (vx_X px BX AX) free) (hS : va_S A0 H0 H locs) (hA : ∀ q, q < H.size → A1 q → A0 q) (hf : ∀ q, free q → A0 q) (hAX : ∀ q, q < H.size → AX q → A0 q)
    (kx : ∀ (E : String) (ce : Cell) (q9 : Addr) (u : SX) (t : State) (H1 : Heap) (locs1 : List Loc), t.heap = H1 → s.vm.Alike t.vm → px u → BX E u t → H.size ≤ H1.size → (∀ q : Nat, q < H.size → ¬ AX q → H1[q]? = H[q]?) → va_S A0 H0 H1 locs1 → H1[q9]? = some ce → ce.vm = .none → s.vm.findClass E = some ce.cls → vx_W p l e R s m args below meth c H1 locs1 (cells + mc) (slots + ms) Q (F0 m pc ls rest) q9)
    (kk : ∀ (r : UInt64) (u : S) (t : State) (H1 : Heap) (locs1 : List Loc), t.heap = H1 → s.vm.Alike t.vm → post r u → B u t → H.size ≤ H1.size → (∀ q : Nat, q < H.size → ¬ A1 q → H1[q]? = H[q]?) → va_S A0 H0 H1 locs1 → W p l e R s m args below meth c H1 locs1 (cells + mc) (slots + ms) Q (F0 m (pc + 3) ls (.double r :: rest))) : W p l e R s m args below meth c H locs cells slots Q (F0 m pc ls st0) := by
  intro T hT X
  rcases hr T hT X with ⟨v, st₀, t, T', L, h0, X', hL, e1, e2, ⟨⟨r, u, hv, hp, hb⟩, hF⟩, st⟩ | ⟨q, st₀, t, T', L, E, ce, h0, X', hL, e1, e2, ⟨u, hp, hb, hF⟩, hce, hcv, hcl, st⟩
  · cases hv
    obtain ⟨k1, k2, k3⟩ := vx_keep h0 e1 hS hA hf hL hF
    obtain ⟨t2, a1, b1⟩ := kk r u t T'.heap (locs ++ L) e1.symm (by rw [← e2]; exact X'.warmed.alike) hp hb k1 k2 k3 T' rfl X'
    exact ⟨t2, st t2 a1, b1⟩
  · obtain ⟨k1, k2, k3⟩ := vx_keep h0 e1 hS hAX hf hL hF
    obtain ⟨t2, a1, b1⟩ := kx E ce q u t T'.heap (locs ++ L) e1.symm (by rw [← e2]; exact X'.warmed.alike) hp hb k1 k2 k3 (by rw [e1]; exact hce) hcv hcl T' rfl X'
    exact ⟨t2, st.trans a1, b1⟩
theorem vx_callv {S SX : Type} {post : S → Prop} {px : SX → Prop} {B : S → State → Prop} {BX : String → SX → State → Prop} {AX : Nat → Prop} (hr : vx_Run p l e R s m args below meth c H locs cells slots mc ms (F0 m pc ls st0) rest (va_Qv post B A1 a) (vx_X px BX AX) free) (hS : va_S A0 H0 H locs) (hA : ∀ q, q < H.size → A1 q → A0 q) (hf : ∀ q, free q → A0 q) (hAX : ∀ q, q < H.size → AX q → A0 q)
    (kx : ∀ (E : String) (ce : Cell) (q9 : Addr) (u : SX) (t : State) (H1 : Heap) (locs1 : List Loc), t.heap = H1 → s.vm.Alike t.vm → px u → BX E u t → H.size ≤ H1.size → (∀ q : Nat, q < H.size → ¬ AX q → H1[q]? = H[q]?) → va_S A0 H0 H1 locs1 → H1[q9]? = some ce → ce.vm = .none → s.vm.findClass E = some ce.cls → vx_W p l e R s m args below meth c H1 locs1 (cells + mc) (slots + ms) Q (F0 m pc ls rest) q9)
    (kk : ∀ (u : S) (t : State) (H1 : Heap) (locs1 : List Loc), t.heap = H1 → s.vm.Alike t.vm → post u → B u t → H.size ≤ H1.size → (∀ q : Nat, q < H.size → ¬ A1 q → H1[q]? = H[q]?) → va_S A0 H0 H1 locs1 → W p l e R s m args below meth c H1 locs1 (cells + mc) (slots + ms) Q (F0 m (pc + 3) ls (rest))) : W p l e R s m args below meth c H locs cells slots Q (F0 m pc ls st0) := by
  intro T hT X
  rcases hr T hT X with ⟨v, st₀, t, T', L, h0, X', hL, e1, e2, ⟨⟨u, hv, hp, hb⟩, hF⟩, st⟩ | ⟨q, st₀, t, T', L, E, ce, h0, X', hL, e1, e2, ⟨u, hp, hb, hF⟩, hce, hcv, hcl, st⟩
  · cases hv
    obtain ⟨k1, k2, k3⟩ := vx_keep h0 e1 hS hA hf hL hF
    obtain ⟨t2, a1, b1⟩ := kk u t T'.heap (locs ++ L) e1.symm (by rw [← e2]; exact X'.warmed.alike) hp hb k1 k2 k3 T' rfl X'
    exact ⟨t2, st t2 a1, b1⟩
  · obtain ⟨k1, k2, k3⟩ := vx_keep h0 e1 hS hAX hf hL hF
    obtain ⟨t2, a1, b1⟩ := kx E ce q u t T'.heap (locs ++ L) e1.symm (by rw [← e2]; exact X'.warmed.alike) hp hb k1 k2 k3 (by rw [e1]; exact hce) hcv hcl T' rfl X'
    exact ⟨t2, st.trans a1, b1⟩
/-- caught by the row x of this method's table; the rows ahead don't take it -/
theorem vx_catch {own name : String} {E : String} {ce : Cell} {q : Addr} (hown : s.vm.findClass own = some m.cls) (pre : List ExceptionTableEntry) (x : ExceptionTableEntry) (suf : List ExceptionTableEntry) (hsplit : c.exceptionTable.toList = pre ++ x :: suf)
    (hpass : ∀ z ∈ pre, covers z pc = false ∨ (z.catchType ≠ 0 ∧ ∃ nm : String, (Cond.classLink own z.catchType nm).before args s = true ∧ va_Nc E nm s)) (hx : covers x pc = true) (h0 : x.catchType ≠ 0)
    (hlink : (Cond.classLink own x.catchType name).before args s = true) (hcast : (Cond.castable E name).before args s = true) (hcell : H[q]? = some ce) (hv : ce.vm = .none) (hcl : s.vm.findClass E = some ce.cls)
    (kk : W p l e R s m args below meth c H locs cells slots Q (F0 m x.handlerPc ls [.ref q])) : vx_W p l e R s m args below meth c H locs cells slots Q (F0 m pc ls rest) q := by
  intro T hT X
  have hpl : e.platform.magicAccessors = ({} : Platform).magicAccessors := by rw [X.admits.platform]
  obtain ⟨c3, c4, hc3, hc4, hasg⟩ := Cond.castable_spec hcast
  cases Option.some.inj (hc3.symm.trans hcl)
  obtain ⟨c5, hc5, hcl5⟩ := Cond.classLink_spec hown hlink e.platform hpl
  cases Option.some.inj (hc4.symm.trans hc5)
  obtain ⟨vm', X', st⟩ := X.thenCaughtThrough q (g := F0 m pc ls rest) rfl (Steps.refl _) (by rw [hT]; exact hcell) (by rw [hv]; rfl) (by obtain ⟨k9, h9, -⟩ := Vm.findClass_spec hcl; exact ⟨k9, h9⟩) pre x suf hsplit
    (fun z hz => by
      rcases hpass z hz with h | ⟨hz0, nm, hl1, hn1⟩
      · exact Or.inl h
      · obtain ⟨c6, hc6, hcl6⟩ := Cond.classLink_spec hown hl1 e.platform hpl
        obtain ⟨a8, b8, h1, h2, h3⟩ := hn1
        cases Option.some.inj (h1.symm.trans hcl)
        cases Option.some.inj (h2.symm.trans hc6)
        exact Or.inr ⟨hz0, _, hcl6, h3⟩) hx (Or.inr ⟨h0, c4, hcl5, hasg⟩)
  obtain ⟨t, a1, b1⟩ := kk (T.setVm vm') hT X'
  exact ⟨t, st.trans a1, b1⟩
end Rows
section Ends
variable {p : Program} {l : Launch} {e : Env} {R : Room} {s : State} {m : MethodId} {args : Array Value} {below : List Frame} {meth : Method} {c : Code} {H : Heap} {locs : List Loc} {cells slots : Nat} {Q : State → Prop}
variable {mc ms : Nat} {free : Addr → Prop} {A0 A1 : Nat → Prop} {H0 : Heap} {a : Array Value} {ls : Array Slot} {st0 rest : List Value}
variable {Qc : Array Value → State → Outcome → State → Prop} {XC : String → State → State → Prop}
/-- what a body that may throw owes at its end -/
def vx_MQ (below : List Frame) (Qc : Array Value → State → Outcome → State → Prop) (XC : String → State → State → Prop) (a : Array Value) (s : State) (mc ms : Nat) (free : Addr → Prop) : State → Prop := fun t =>
  ∃ o, t.status = .running ∧ Ended t below o ∧ vx_Q Qc XC mc ms free a s o t
theorem vx_ret {g : JFrame} {mc ms : Nat} (k : W p l e R s m args below meth c H locs cells slots (MQ below Qc args s mc ms free) g) : W p l e R s m args below meth c H locs cells slots (vx_MQ below Qc XC args s mc ms free) g := by
  intro T hT X
  obtain ⟨t, a1, o, b1, b2, b3, b4⟩ := k T hT X
  exact ⟨t, a1, o, b1, b2, Or.inl ⟨b3, b4⟩⟩
/-- not caught here: it goes on to the caller -/
theorem vx_widen {g : JFrame} {q : Addr} {k n : Nat} (h1 : cells ≤ k) (h2 : slots ≤ n) (kk : vx_W p l e R s m args below meth c H locs k n Q g q) : vx_W p l e R s m args below meth c H locs cells slots Q g q := fun T hT X => kk T hT (stand_widen X h1 h2)
theorem vx_out {pc : Nat} {E : String} {ce : Cell} {q : Addr} {mc ms : Nat} (hout : ∀ x ∈ c.exceptionTable.toList, covers x pc = false) (hlocks : meth.locks = false) (hcell : H[q]? = some ce) (hv : ce.vm = .none) (hcl : s.vm.findClass E = some ce.cls)
    (hx : ∀ t : State, t.heap = H → s.vm.Alike t.vm → XC E s t) (hf : ∀ z ∈ locs, free z.base) (hc : cells ≤ mc) (hs : slots ≤ ms) :
    vx_W p l e R s m args below meth c H locs cells slots (vx_MQ below Qc XC args s mc ms free) (F0 m pc ls rest) q := by
  intro T hT X
  obtain ⟨st1, hrun, hend, hW, hsm⟩ := X.leaveThrown q (g := F0 m pc ls rest) rfl rfl rfl hout hlocks
  have hcell9 : (T.setFrames (.throwing q :: below)).heap[q]? = some ce := by
    show T.heap[q]? = some ce
    rw [hT]; exact hcell
  exact ⟨_, st1, .threw q, hrun, hend, Or.inr ⟨q, rfl, E, ce, locs, hx _ hT hW.alike, hcell9, hv, hcl, hW, hsm.mono hc hs, hf⟩⟩
theorem vx_frame {U : State} {k n : Nat} (h : s.sameButNew ({ U with vm := s.vm } : State) locs k n) : s.heap.size ≤ U.heap.size ∧ ∀ q : Nat, q < s.heap.size → (∀ z ∈ locs, z.base ≠ q) → U.heap[q]? = s.heap[q]? := by
  obtain ⟨-, h2, -, -, -, h6⟩ := h
  refine ⟨h2, fun q hq hz => ?_⟩
  obtain ⟨c9, e1, e2, e3, e4⟩ := h6 q _ (Array.getElem?_eq_getElem hq)
  have hs : c9.slots = (s.heap[q]).slots := Array.ext_getElem? fun i => e4 i fun hm => hz _ hm rfl
  have h9 : c9 = s.heap[q] := by
    rw [hs] at e2
    exact e2
  have e5 : U.heap[q]? = some c9 := e1
  rw [e5, h9, Array.getElem?_eq_getElem hq]
/-- the words of a throw but the four that speak of the heap -/
def vx_no (w : Cond) : Bool := decide (w ≠ .isRef (.static Bundle.tN "UNASSIGNED_STACK" Bundle.steD)) && decide (w ≠ .isRef (.static Bundle.tN "SUPPRESSED_SENTINEL" Bundle.listD)) && decide (w ≠ .laysStatic Bundle.tN "UNASSIGNED_STACK" Bundle.steD) && decide (w ≠ .laysStatic Bundle.tN "SUPPRESSED_SENTINEL" Bundle.listD)
def vx_at0 (own : String) (ic : Nat) (X : String) (names : List String) : List Cond := (Bundle.ownAtoms0 own ic X names).filter vx_no
def vx_atS (own : String) (ic : Nat) (X : String) (names : List String) : List Cond := (Bundle.ownAtoms own ic X names).filter vx_no
/-- a word that the tables alone decide, or a good one -/
def vx_ot (w : Cond) : Bool := w.onTables || goodWord w
theorem vx_ot_at {args a' : Array Value} {s U : State} {w : Cond} (hW : s.WarmedH U.vm) (hvm : s.vm = U.vm) (hg : vx_ot w = true) (h : w.before args s = true) : w.before a' U = true := by
  simp only [vx_ot, Bool.or_eq_true] at hg
  rcases hg with hg | hg
  · exact va_tabs hg hvm h
  · exact word_at hW (good_of_word hg) h
/-- a list's words: the good ones out of the method's own list, the others by premises of their own -/
theorem vx_hat {args : Array Value} {s : State} {L B : List Cond} (h1 : ∀ w ∈ L.filter goodWord, w.before args s = true) (h2 : ∀ w ∈ L.filter (fun w => !goodWord w), w ∈ B) (h3 : ∀ w ∈ B, w.before args s = true) : ∀ w ∈ L, w.before args s = true := by
  intro w hw
  by_cases g : goodWord w = true
  · exact h1 w (List.mem_filter.mpr ⟨hw, g⟩)
  · refine h3 w (h2 w (List.mem_filter.mpr ⟨hw, ?_⟩))
    show (!goodWord w) = true
    cases hgw : goodWord w
    · rfl
    · exact absurd hgw g
theorem vx_c {args : Array Value} {s : State} {w : Cond} {B : List Cond} (h : w.before args s = true) (t : ∀ w ∈ B, w.before args s = true) : ∀ w' ∈ w :: B, w'.before args s = true := fun w' h' => (List.mem_cons.mp h').elim (fun e => by rw [e]; exact h) (t w')
theorem vx_n {args : Array Value} {s : State} : ∀ w ∈ ([] : List Cond), w.before args s = true := fun _ h => nomatch h
theorem vx_own {args : Array Value} {s : State} {L : List Cond} (h1 : ∀ w ∈ L.filter vx_no, w.before args s = true)
    (hU : (Cond.isRef (.static Bundle.tN "UNASSIGNED_STACK" Bundle.steD)).before args s = true) (hN : (Cond.isRef (.static Bundle.tN "SUPPRESSED_SENTINEL" Bundle.listD)).before args s = true)
    (lU : (Cond.laysStatic Bundle.tN "UNASSIGNED_STACK" Bundle.steD).before args s = true) (lN : (Cond.laysStatic Bundle.tN "SUPPRESSED_SENTINEL" Bundle.listD).before args s = true) : ∀ w ∈ L, w.before args s = true := by
  intro w hw
  by_cases e1 : w = .isRef (.static Bundle.tN "UNASSIGNED_STACK" Bundle.steD)
  · rw [e1]; exact hU
  · by_cases e2 : w = .isRef (.static Bundle.tN "SUPPRESSED_SENTINEL" Bundle.listD)
    · rw [e2]; exact hN
    · by_cases e3 : w = .laysStatic Bundle.tN "UNASSIGNED_STACK" Bundle.steD
      · rw [e3]; exact lU
      · by_cases e4 : w = .laysStatic Bundle.tN "SUPPRESSED_SENTINEL" Bundle.listD
        · rw [e4]; exact lN
        · exact h1 w (List.mem_filter.mpr ⟨hw, by unfold vx_no; rw [decide_eq_true e1, decide_eq_true e2, decide_eq_true e3, decide_eq_true e4]; rfl⟩)
/-- where a static field lies, its class's statics cell in H -/
def vx_L (C n d : String) (A : Nat → Prop) (U : State) (H : Heap) : Prop := ∃ (c : ClassId) (k : Class) (i : Nat) (f : Field) (a : Nat) (cell : Cell), U.vm.findClass C = some c ∧ U.fieldFound? C n d = some (c, k, i, f) ∧ f.isStatic = true ∧ k.statics = some a ∧ H[a]? = some cell ∧ cell.vm.isStatics = true ∧ cell.cls = c ∧ f.slot < cell.slots.size ∧ k.staticTypes[f.slot]? = some f.type ∧ ¬ A a
theorem vx_L.moved {C n d : String} {A : Nat → Prop} {u U : State} {H : Heap} (hvm : u.vm.Alike U.vm) (h : vx_L C n d A u H) : vx_L C n d A U H := by
  obtain ⟨c, k, i, f, a, cell, h1, h2, h3, h4, h5, h6, h7, h8, h9, h10⟩ := h
  obtain ⟨k', hi', he⟩ := State.fieldFound?_setVm hvm h2
  exact ⟨c, k', i, f, a, cell, by rw [hvm.findClass]; exact h1, hi', h3, by rw [he]; exact h4, h5, h6, h7, h8, by rw [he]; exact h9, h10⟩
theorem vx_L.kept {C n d : String} {A : Nat → Prop} {U : State} {H H1 : Heap} (h : vx_L C n d A U H) (hq : ∀ a : Nat, a < H.size → ¬ A a → H1[a]? = H[a]?) : vx_L C n d A U H1 := by
  obtain ⟨c, k, i, f, a, cell, h1, h2, h3, h4, h5, h6, h7, h8, h9, h10⟩ := h
  exact ⟨c, k, i, f, a, cell, h1, h2, h3, h4, by rw [hq a (Array.getElem?_eq_some_iff.mp h5).1 h10]; exact h5, h6, h7, h8, h9, h10⟩
theorem vx_L.narrow {C n d : String} {A B : Nat → Prop} {U : State} {H : Heap} (h : vx_L C n d A U H) (hAB : ∀ q, B q → A q) : vx_L C n d B U H := by
  obtain ⟨c, k, i, f, a, cell, h1, h2, h3, h4, h5, h6, h7, h8, h9, h10⟩ := h
  exact ⟨c, k, i, f, a, cell, h1, h2, h3, h4, h5, h6, h7, h8, h9, fun z => h10 (hAB _ z)⟩
theorem vx_L.word {C n d : String} {A : Nat → Prop} {s : State} {args : Array Value} (h : vx_L C n d A s s.heap) : (Cond.laysStatic C n d).before args s = true := by
  obtain ⟨c, k, i, f, a, cell, h1, h2, h3, h4, h5, h6, h7, h8, h9, -⟩ := h
  show (Cond.laysStatic C n d).holds args s none s [] = true
  exact Cond.laysStatic_of h1 h2 h3 h4 h5 h6 h7 h8 h9
/-- .. and what it holds: null or some reference -/
def vx_Zq (C n d : String) (A : Nat → Prop) (U : State) (H : Heap) : Prop := va_Zq C n d A U H ∧ vx_L C n d A U H
theorem vx_Zq.moved {C n d : String} {A : Nat → Prop} {u U : State} {H : Heap} (hvm : u.vm.Alike U.vm) (h : vx_Zq C n d A u H) : vx_Zq C n d A U H := ⟨va_Zq.moved hvm h.1, vx_L.moved hvm h.2⟩
theorem vx_Zq.kept {C n d : String} {A : Nat → Prop} {U : State} {H H1 : Heap} (h : vx_Zq C n d A U H) (hq : ∀ a : Nat, a < H.size → ¬ A a → H1[a]? = H[a]?) : vx_Zq C n d A U H1 := ⟨va_Zq.kept h.1 hq, vx_L.kept h.2 hq⟩
theorem vx_Zq.narrow {C n d : String} {A B : Nat → Prop} {U : State} {H : Heap} (h : vx_Zq C n d A U H) (hAB : ∀ q, B q → A q) : vx_Zq C n d B U H := ⟨va_Zq.narrow h.1 hAB, vx_L.narrow h.2 hAB⟩
theorem vx_Zqof {args : Array Value} {s : State} {C n d : String} {A : Nat → Prop} (hl : (Cond.laysStatic C n d).before args s = true) (hini : (Cond.initialized C).before args s = true) (h : (Cond.isRef (.static C n d)).before args s = true) (hA : ∀ a : Nat, a < s.heap.size → ¬ A a) : vx_Zq C n d A s s.heap := by
  refine ⟨va_Zqof hl hini h hA, ?_⟩
  obtain ⟨c, k, i, f, a, cell, h1, h2, h3, h4, h5, h6, h7, h8, h9⟩ := Cond.laysStatic_spec hl
  exact ⟨c, k, i, f, a, cell, h1, h2, h3, h4, h5, h6, h7, h8, h9, hA a (Array.getElem?_eq_some_iff.mp h5).1⟩
theorem vx_isRef {C n d : String} {v : Value} {A : Nat → Prop} {s : State} {args : Array Value} (h : va_Z C n d v A s s.heap) (hv : v.isRef = true) : (Cond.isRef (.static C n d)).before args s = true := by
  obtain ⟨cf, kf, fi, f, a, cell, h1, h2, h3, h4, h5, h6, h7, -⟩ := h
  have he : (Term.static C n d).eval args s none [] s = some v := by
    simp [Term.eval, State.fieldNamed?, h1, h2, h4, h5, h6, h7]
  simp only [Cond.before, Cond.holds, Cond.value, he]
  cases v <;> simp_all [Value.isRef]
theorem vx_isRefq {C n d : String} {A : Nat → Prop} {s : State} {args : Array Value} (h : va_Zq C n d A s s.heap) : (Cond.isRef (.static C n d)).before args s = true := by
  rcases h with h | ⟨t, h⟩
  · exact vx_isRef h rfl
  · exact vx_isRef h rfl
/-- the same frame, seen from here: as if the method were called anew in this heap -/
theorem vx_rebase {T : State} (X : Stand p l e R s m args below meth c T locs cells slots) {R' : Room} (hf : R'.frames ≤ R.frames) (hl : R'.locals ≤ R.locals) (hc : cells + R'.cells ≤ R.cells) (hs : slots + R'.slots ≤ R.slots) :
    Stand p l e R' ((T.setVm s.vm).setFrames (.invoking m args :: below)) m args below meth c T [] 0 0 := by
  have htop : (T.setVm s.vm).topJava?.isSome := X.here.top
  have hF : ((T.setVm s.vm).setFrames (.invoking m args :: below)).frames = .invoking m args :: below := State.frames_setFrames _ (State.cur_lt_of_top htop)
  obtain ⟨g₀, hg0⟩ := Option.isSome_iff_exists.mp htop
  obtain ⟨r, hr⟩ := State.topJava?_eq_some.mp hg0
  have hl9 : e.platform.stackLimits (T.setVm s.vm).me = e.platform.stackLimits s.me := X.limits
  have hb9 : (T.setVm s.vm).me.stackBytes = s.me.stackBytes := X.bytes
  refine ⟨X.admits, X.cas, X.clock, hF, ?_, X.hears, X.method, X.code, X.here, X.tail, X.warmed, ?_, ?_, ?_⟩
  · have h := X.room
    have hU : ((T.setVm s.vm).setFrames (.invoking m args :: below)).localsInUse = s.localsInUse := by
      rw [State.localsInUse_invoking hF (meth := meth) (c := c) X.method X.code, State.localsInUse_invoking X.frames X.method X.code]
    simp only [State.hasRoom, Bool.and_eq_true, decide_eq_true_eq] at h ⊢
    obtain ⟨⟨⟨⟨h1, h2, h3, h4, h5, h6⟩, h7⟩, h8⟩, h9⟩ := h
    rw [X.frames, List.length_cons] at h2 h3
    have q1 := X.heapSize
    have q2 := X.used
    simp only [hF, hU, List.length_cons, State.stackLimits_setFrames, State.stackBytes_setFrames, hl9, hb9]
    refine ⟨⟨⟨⟨by omega, by omega, by omega, by omega, by omega, h6⟩, ?_⟩, ?_⟩, X.book⟩
    · show T.heap.size + R'.cells ≤ e.platform.maxCells
      omega
    · show T.slotsUsed + R'.slots ≤ e.platform.maxSlots
      omega
  · rw [State.stackLimits_setFrames]; rfl
  · rw [State.stackBytes_setFrames]; rfl
  · refine ⟨?_, Nat.le_refl _, Nat.le_refl _, ?_, ?_, fun a c9 h9 => ⟨c9, h9, rfl, rfl, fun _ _ => rfl⟩⟩
    · obtain ⟨t, ht, -⟩ := State.frames_cons hr
      show T.setVm s.vm = { ((T.setVm s.vm).setFrames (.invoking m args :: below)).setFrames (T.setVm s.vm).frames with heap := T.heap, slotsUsed := T.slotsUsed }
      rw [State.setFrames_setFrames, State.setFrames_self ht]
      rfl
    · show T.slotsUsed = T.slotsUsed + ((T.heap.toList.drop T.heap.size).map (·.slots.size)).sum
      rw [List.drop_eq_nil_of_le (Nat.le_of_eq Array.length_toList)]
      rfl
    · show ((T.heap.toList.drop T.heap.size).map (·.slots.size)).sum ≤ 0
      rw [List.drop_eq_nil_of_le (Nat.le_of_eq Array.length_toList)]
      exact Nat.le_refl _
/-- 'throw new E()': new; dup; invokespecial; athrow -/
theorem vx_throw0 {cc : ByteArray} {pc : Nat} (hexec : p.tables.exec = Jvm.exec) (hb : c.code = cc) (hl : l.stackTraces = false) {own cls : String} {names : List String} {ik ic mc ms : Nat} {A : Nat → Prop}
    (hown : s.vm.findClass own = some m.cls) (hcls : Bundle.fit cls = true) (hnames : ∀ n ∈ names, Bundle.fit n = true)
    (hk : (Cond.classLink own ik cls).before args s = true) (hini : (Cond.initialized cls).before args s = true) (hat : ∀ w ∈ vx_at0 own ic cls names, w.before args s = true)
    (hgood : ∀ w ∈ Cond.classLink own ik cls :: Cond.initialized cls :: vx_at0 own ic cls names, vx_ot w = true)
    (hU : vx_Zq Bundle.tN "UNASSIGNED_STACK" Bundle.steD A s s.heap) (hN : vx_Zq Bundle.tN "SUPPRESSED_SENTINEL" Bundle.listD A s s.heap) (hS : va_S A s.heap H locs) (hsize : ls.size = c.maxLocals)
    (d0 : decode cc pc = .ok (.new ik, 3)) (d3 : decode cc (pc + 3) = .ok (.dup, 1)) (d4 : decode cc (pc + 4) = .ok (.invokespecial ic, 3)) (d7 : decode cc (pc + 7) = .ok (.athrow, 1))
    (hout : ∀ x ∈ c.exceptionTable.toList, covers x (pc + 7) = false)
    (hRframes : names.length + 3 < R.frames) (hRlocals : (rest.map fun v => v.category).sum + (13 * (names.length + 1) + 42) ≤ R.locals) (hRcells : cells + 1 ≤ R.cells) (hRslots : slots + 6 ≤ R.slots) (hlocks : meth.locks = false)
    (hx : ∀ t : State, s.vm.Alike t.vm → H.size ≤ t.heap.size → (∀ q : Nat, q < H.size → t.heap[q]? = H[q]?) → XC cls s t)
    (hf : ∀ z ∈ locs, free z.base) (hc : cells + 1 ≤ mc) (hs : slots + 6 ≤ ms) :
    W p l e R s m args below meth c H locs cells slots (vx_MQ below Qc XC args s mc ms free) (F0 m pc ls rest) := by
  intro T hT X
  have htr : e.platform.stackTraces = false := (show e.platform.stackTraces = l.stackTraces by rw [X.admits.platform]).trans hl
  have Y := vx_rebase X (R' := { frames := R.frames, locals := R.locals, cells := 1, slots := 6 }) (Nat.le_refl _) (Nat.le_refl _) hRcells hRslots
  obtain ⟨s', hA⟩ : ∃ z, z = (T.setVm s.vm).setFrames (.invoking m args :: below) := ⟨_, rfl⟩
  rw [← hA] at Y
  have hvm : s'.vm = s.vm := by rw [hA]; rfl
  have hhp : s'.heap = H := by rw [hA]; exact hT
  have hW0 : s.WarmedH s'.vm := by rw [hvm]; exact State.WarmedH.refl s
  have hat' : ∀ w ∈ vx_at0 own ic cls names, w.before args s' = true := fun w hw => vx_ot_at hW0 hvm.symm (hgood w (List.mem_cons_of_mem _ (List.mem_cons_of_mem _ hw))) (hat w hw)
  have hk' : (Cond.classLink own ik cls).before args s' = true := vx_ot_at hW0 hvm.symm (hgood _ List.mem_cons_self) hk
  have hini' : (Cond.initialized cls).before args s' = true := vx_ot_at hW0 hvm.symm (hgood _ (List.mem_cons_of_mem _ List.mem_cons_self)) hini
  have hU' : vx_Zq Bundle.tN "UNASSIGNED_STACK" Bundle.steD A s' s'.heap := by rw [hhp]; exact vx_Zq.moved hW0.alike (hU.kept hS.2.1)
  have hN' : vx_Zq Bundle.tN "SUPPRESSED_SENTINEL" Bundle.listD A s' s'.heap := by rw [hhp]; exact vx_Zq.moved hW0.alike (hN.kept hS.2.1)
  have h : ∀ w ∈ Bundle.ownAtoms0 own ic cls names, w.before args s' = true := vx_own hat' (vx_isRefq hU'.1) (vx_isRefq hN'.1) hU'.2.word hN'.2.word
  have hown' : s'.vm.findClass own = some m.cls := by rw [hvm]; exact hown
  have hins : (Cond.instantiable cls 6).before args s' = true := h _ (by simp [Bundle.ownAtoms0])
  obtain ⟨vm₁, cX, kX, hfX, hkX, -, -, X₁, st1⟩ := Y.newCold hexec (own := own) (C := cls) (index := ik) (n := 6) hown' hk' hins hini'
    (g := F0 m pc ls rest) rfl (by rw [hb]; exact d0) (Nat.le_refl _) (Nat.le_refl _)
  generalize hT1 : (T.setVm vm₁).pushCell { cls := cX, slots := kX.instanceTypes.map defaultValue, vm := .none } = T1 at X₁ st1
  have hcat : (Value.ref T.heap.size).category = 1 := rfl
  have hcellA : T1.heap[T.heap.size]? = some (freshCell cX kX) := by rw [← hT1]; exact State.heap_pushCell_size _ _
  have d3' : decode c.code (pc + 3) = .ok (.dup, 1) := by rw [hb]; exact d3
  obtain ⟨U, hsteps, hrun, hend, hW, hsame, ce, hce, hO⟩ := X₁.ctorThrow0 hexec htr (own := own) (cls := cls) (names := names) (ic := ic) hown' hcls hnames h (fun x hx => nomatch hx) hfX hkX hcellA (by rw [hhp, hT]; exact Nat.le_refl _)
    (g := { method := m, pc := pc + 4, locals := ls, stack := .ref T.heap.size :: .ref T.heap.size :: rest, locked := none }) rfl hsize rfl rfl (rest := rest) rfl
    (by rw [hb]; exact d4) (by rw [hb]; exact d7) hout hRframes (by simp only [List.map_cons, List.sum_cons, hcat]; omega) hlocks
  obtain ⟨f1, f2⟩ := vx_frame hsame
  rw [hhp] at f1 f2
  have hWs : s.WarmedH U.vm := State.WarmedH.trans hW0 hW
  have hcl : s.vm.findClass cls = some ce.cls := by
    have h9 := hO.cls
    rw [hvm] at h9
    exact h9
  have hall : s.sameButNew ({ U with vm := s.vm } : State) locs mc ms := by
    subst hA
    obtain ⟨e1, e2⟩ := hsame
    rw [State.setFrames_setFrames] at e1
    have h2 : (T.setVm s.vm).sameButNew ({ U with vm := s.vm } : State) [] (0 + 1) (0 + 6) := ⟨e1, e2⟩
    have h3 := X.same.trans h2
    rw [List.append_nil] at h3
    exact h3.mono hc hs
  refine ⟨U, ?_, .threw T.heap.size, hrun, hend, Or.inr ⟨T.heap.size, rfl, cls, ce, locs, hx U hWs.alike f1 (fun q hq => f2 q hq (fun z hz => nomatch hz)), hce, hO.vm, hcl, hWs, hall, hf⟩⟩
  refine st1 _ ?_
  show Steps p.tables e below (T1.setTop { method := m, pc := pc + 3, locals := ls, stack := .ref T.heap.size :: rest, locked := none }) _
  jvm_step X₁.here [X₁.here.top, hexec, d3', Value.category]
  exact hsteps
/-- 'throw new E("text")': new; dup; ldc; invokespecial; athrow -/
theorem vx_throwS {cc : ByteArray} {pc : Nat} (hexec : p.tables.exec = Jvm.exec) (hb : c.code = cc) (hl : l.stackTraces = false) {own cls text : String} {names : List String} {ik is ic mc ms sa : Nat} {A : Nat → Prop}
    (hown : s.vm.findClass own = some m.cls) (hcls : Bundle.fit cls = true) (hnames : ∀ n ∈ names, Bundle.fit n = true)
    (hk : (Cond.classLink own ik cls).before args s = true) (hini : (Cond.initialized cls).before args s = true) (hstr : vk_R own is text sa s) (hat : ∀ w ∈ vx_atS own ic cls names, w.before args s = true)
    (hgood : ∀ w ∈ Cond.classLink own ik cls :: Cond.initialized cls :: vx_atS own ic cls names, vx_ot w = true)
    (hU : vx_Zq Bundle.tN "UNASSIGNED_STACK" Bundle.steD A s s.heap) (hN : vx_Zq Bundle.tN "SUPPRESSED_SENTINEL" Bundle.listD A s s.heap) (hS : va_S A s.heap H locs) (hsize : ls.size = c.maxLocals)
    (d0 : decode cc pc = .ok (.new ik, 3)) (d3 : decode cc (pc + 3) = .ok (.dup, 1)) (d4 : decode cc (pc + 4) = .ok (.ldc is, 2)) (d6 : decode cc (pc + 6) = .ok (.invokespecial ic, 3)) (d9 : decode cc (pc + 9) = .ok (.athrow, 1))
    (hout : ∀ x ∈ c.exceptionTable.toList, covers x (pc + 9) = false)
    (hRframes : names.length + 3 < R.frames) (hRlocals : (rest.map fun v => v.category).sum + (13 * (names.length + 1) + 43) ≤ R.locals) (hRcells : cells + 1 ≤ R.cells) (hRslots : slots + 6 ≤ R.slots) (hlocks : meth.locks = false)
    (hx : ∀ t : State, s.vm.Alike t.vm → H.size ≤ t.heap.size → (∀ q : Nat, q < H.size → t.heap[q]? = H[q]?) → XC cls s t)
    (hf : ∀ z ∈ locs, free z.base) (hc : cells + 1 ≤ mc) (hs : slots + 6 ≤ ms) :
    W p l e R s m args below meth c H locs cells slots (vx_MQ below Qc XC args s mc ms free) (F0 m pc ls rest) := by
  intro T hT X
  have htr : e.platform.stackTraces = false := (show e.platform.stackTraces = l.stackTraces by rw [X.admits.platform]).trans hl
  have Y := vx_rebase X (R' := { frames := R.frames, locals := R.locals, cells := 1, slots := 6 }) (Nat.le_refl _) (Nat.le_refl _) hRcells hRslots
  obtain ⟨s', hA⟩ : ∃ z, z = (T.setVm s.vm).setFrames (.invoking m args :: below) := ⟨_, rfl⟩
  rw [← hA] at Y
  have hvm : s'.vm = s.vm := by rw [hA]; rfl
  have hhp : s'.heap = H := by rw [hA]; exact hT
  have hW0 : s.WarmedH s'.vm := by rw [hvm]; exact State.WarmedH.refl s
  have hat' : ∀ w ∈ vx_atS own ic cls names, w.before args s' = true := fun w hw => vx_ot_at hW0 hvm.symm (hgood w (List.mem_cons_of_mem _ (List.mem_cons_of_mem _ hw))) (hat w hw)
  have hk' : (Cond.classLink own ik cls).before args s' = true := vx_ot_at hW0 hvm.symm (hgood _ List.mem_cons_self) hk
  have hini' : (Cond.initialized cls).before args s' = true := vx_ot_at hW0 hvm.symm (hgood _ (List.mem_cons_of_mem _ List.mem_cons_self)) hini
  have hU' : vx_Zq Bundle.tN "UNASSIGNED_STACK" Bundle.steD A s' s'.heap := by rw [hhp]; exact vx_Zq.moved hW0.alike (hU.kept hS.2.1)
  have hN' : vx_Zq Bundle.tN "SUPPRESSED_SENTINEL" Bundle.listD A s' s'.heap := by rw [hhp]; exact vx_Zq.moved hW0.alike (hN.kept hS.2.1)
  have h : ∀ w ∈ Bundle.ownAtoms own ic cls names, w.before args s' = true := vx_own hat' (vx_isRefq hU'.1) (vx_isRefq hN'.1) hU'.2.word hN'.2.word
  have hown' : s'.vm.findClass own = some m.cls := by rw [hvm]; exact hown
  have hins : (Cond.instantiable cls 6).before args s' = true := h _ (by simp [Bundle.ownAtoms])
  obtain ⟨vm₁, cX, kX, hfX, hkX, -, -, X₁, st1⟩ := Y.newCold hexec (own := own) (C := cls) (index := ik) (n := 6) hown' hk' hins hini'
    (g := F0 m pc ls rest) rfl (by rw [hb]; exact d0) (Nat.le_refl _) (Nat.le_refl _)
  generalize hT1 : (T.setVm vm₁).pushCell { cls := cX, slots := kX.instanceTypes.map defaultValue, vm := .none } = T1 at X₁ st1
  have hcat : (Value.ref T.heap.size).category = 1 := rfl
  have hcellA : T1.heap[T.heap.size]? = some (freshCell cX kX) := by rw [← hT1]; exact State.heap_pushCell_size _ _
  have d3' : decode c.code (pc + 3) = .ok (.dup, 1) := by rw [hb]; exact d3
  have d4' : decode c.code (pc + 4) = .ok (.ldc is, 2) := by rw [hb]; exact d4
  have hstr' : vk_R own is text sa s' := vk_R.warm hW0 hstr
  obtain ⟨U, hsteps, hrun, hend, hW, hsame, ce, hce, hO⟩ := X₁.ctorThrowS hexec htr (own := own) (cls := cls) (names := names) (ic := ic) hown' hcls hnames h (fun x hx => nomatch hx) hfX hkX hcellA (by rw [hhp, hT]; exact Nat.le_refl _) (msg := .ref sa) rfl
    (g := { method := m, pc := pc + 6, locals := ls, stack := .ref sa :: .ref T.heap.size :: .ref T.heap.size :: rest, locked := none }) rfl hsize rfl rfl (rest := rest) rfl
    (by rw [hb]; exact d6) (by rw [hb]; exact d9) hout hRframes (by simp only [List.map_cons, List.sum_cons, hcat]; omega) hlocks
  obtain ⟨f1, f2⟩ := vx_frame hsame
  rw [hhp] at f1 f2
  have hWs : s.WarmedH U.vm := State.WarmedH.trans hW0 hW
  have hcl : s.vm.findClass cls = some ce.cls := by
    have h9 := hO.cls
    rw [hvm] at h9
    exact h9
  have hall : s.sameButNew ({ U with vm := s.vm } : State) locs mc ms := by
    subst hA
    obtain ⟨e1, e2⟩ := hsame
    rw [State.setFrames_setFrames] at e1
    have h2 : (T.setVm s.vm).sameButNew ({ U with vm := s.vm } : State) [] (0 + 1) (0 + 6) := ⟨e1, e2⟩
    have h3 := X.same.trans h2
    rw [List.append_nil] at h3
    exact h3.mono hc hs
  refine ⟨U, ?_, .threw T.heap.size, hrun, hend, Or.inr ⟨T.heap.size, rfl, cls, ce, locs, hx U hWs.alike f1 (fun q hq => f2 q hq (fun z hz => nomatch hz)), hce, hO.vm, hcl, hWs, hall, hf⟩⟩
  refine st1 _ ?_
  show Steps p.tables e below (T1.setTop { method := m, pc := pc + 3, locals := ls, stack := .ref T.heap.size :: rest, locked := none }) _
  jvm_step X₁.here [X₁.here.top, hexec, d3', Value.category]
  exact X₁.ldcString hexec (own := own) (text := text) (index := is) (a := sa) hown' hstr'.1 hstr'.2
    (g := { method := m, pc := pc + 4, locals := ls, stack := .ref T.heap.size :: .ref T.heap.size :: rest, locked := none }) rfl d4' _ hsteps
/-- 'throw new E("text")', the text by a wide index -/
theorem vx_throwSW {cc : ByteArray} {pc : Nat} (hexec : p.tables.exec = Jvm.exec) (hb : c.code = cc) (hl : l.stackTraces = false) {own cls text : String} {names : List String} {ik is ic mc ms sa : Nat} {A : Nat → Prop}
    (hown : s.vm.findClass own = some m.cls) (hcls : Bundle.fit cls = true) (hnames : ∀ n ∈ names, Bundle.fit n = true)
    (hk : (Cond.classLink own ik cls).before args s = true) (hini : (Cond.initialized cls).before args s = true) (hstr : vk_R own is text sa s) (hat : ∀ w ∈ vx_atS own ic cls names, w.before args s = true)
    (hgood : ∀ w ∈ Cond.classLink own ik cls :: Cond.initialized cls :: vx_atS own ic cls names, vx_ot w = true)
    (hU : vx_Zq Bundle.tN "UNASSIGNED_STACK" Bundle.steD A s s.heap) (hN : vx_Zq Bundle.tN "SUPPRESSED_SENTINEL" Bundle.listD A s s.heap) (hS : va_S A s.heap H locs) (hsize : ls.size = c.maxLocals)
    (d0 : decode cc pc = .ok (.new ik, 3)) (d3 : decode cc (pc + 3) = .ok (.dup, 1)) (d4 : decode cc (pc + 4) = .ok (.ldc_w is, 3)) (d7 : decode cc (pc + 7) = .ok (.invokespecial ic, 3)) (d10 : decode cc (pc + 10) = .ok (.athrow, 1))
    (hout : ∀ x ∈ c.exceptionTable.toList, covers x (pc + 10) = false)
    (hRframes : names.length + 3 < R.frames) (hRlocals : (rest.map fun v => v.category).sum + (13 * (names.length + 1) + 43) ≤ R.locals) (hRcells : cells + 1 ≤ R.cells) (hRslots : slots + 6 ≤ R.slots) (hlocks : meth.locks = false)
    (hx : ∀ t : State, s.vm.Alike t.vm → H.size ≤ t.heap.size → (∀ q : Nat, q < H.size → t.heap[q]? = H[q]?) → XC cls s t)
    (hf : ∀ z ∈ locs, free z.base) (hc : cells + 1 ≤ mc) (hs : slots + 6 ≤ ms) :
    W p l e R s m args below meth c H locs cells slots (vx_MQ below Qc XC args s mc ms free) (F0 m pc ls rest) := by
  intro T hT X
  have htr : e.platform.stackTraces = false := (show e.platform.stackTraces = l.stackTraces by rw [X.admits.platform]).trans hl
  have Y := vx_rebase X (R' := { frames := R.frames, locals := R.locals, cells := 1, slots := 6 }) (Nat.le_refl _) (Nat.le_refl _) hRcells hRslots
  obtain ⟨s', hA⟩ : ∃ z, z = (T.setVm s.vm).setFrames (.invoking m args :: below) := ⟨_, rfl⟩
  rw [← hA] at Y
  have hvm : s'.vm = s.vm := by rw [hA]; rfl
  have hhp : s'.heap = H := by rw [hA]; exact hT
  have hW0 : s.WarmedH s'.vm := by rw [hvm]; exact State.WarmedH.refl s
  have hat' : ∀ w ∈ vx_atS own ic cls names, w.before args s' = true := fun w hw => vx_ot_at hW0 hvm.symm (hgood w (List.mem_cons_of_mem _ (List.mem_cons_of_mem _ hw))) (hat w hw)
  have hk' : (Cond.classLink own ik cls).before args s' = true := vx_ot_at hW0 hvm.symm (hgood _ List.mem_cons_self) hk
  have hini' : (Cond.initialized cls).before args s' = true := vx_ot_at hW0 hvm.symm (hgood _ (List.mem_cons_of_mem _ List.mem_cons_self)) hini
  have hU' : vx_Zq Bundle.tN "UNASSIGNED_STACK" Bundle.steD A s' s'.heap := by rw [hhp]; exact vx_Zq.moved hW0.alike (hU.kept hS.2.1)
  have hN' : vx_Zq Bundle.tN "SUPPRESSED_SENTINEL" Bundle.listD A s' s'.heap := by rw [hhp]; exact vx_Zq.moved hW0.alike (hN.kept hS.2.1)
  have h : ∀ w ∈ Bundle.ownAtoms own ic cls names, w.before args s' = true := vx_own hat' (vx_isRefq hU'.1) (vx_isRefq hN'.1) hU'.2.word hN'.2.word
  have hown' : s'.vm.findClass own = some m.cls := by rw [hvm]; exact hown
  have hins : (Cond.instantiable cls 6).before args s' = true := h _ (by simp [Bundle.ownAtoms])
  obtain ⟨vm₁, cX, kX, hfX, hkX, -, -, X₁, st1⟩ := Y.newCold hexec (own := own) (C := cls) (index := ik) (n := 6) hown' hk' hins hini'
    (g := F0 m pc ls rest) rfl (by rw [hb]; exact d0) (Nat.le_refl _) (Nat.le_refl _)
  generalize hT1 : (T.setVm vm₁).pushCell { cls := cX, slots := kX.instanceTypes.map defaultValue, vm := .none } = T1 at X₁ st1
  have hcat : (Value.ref T.heap.size).category = 1 := rfl
  have hcellA : T1.heap[T.heap.size]? = some (freshCell cX kX) := by rw [← hT1]; exact State.heap_pushCell_size _ _
  have d3' : decode c.code (pc + 3) = .ok (.dup, 1) := by rw [hb]; exact d3
  have d4' : decode c.code (pc + 4) = .ok (.ldc_w is, 3) := by rw [hb]; exact d4
  have hstr' : vk_R own is text sa s' := vk_R.warm hW0 hstr
  obtain ⟨U, hsteps, hrun, hend, hW, hsame, ce, hce, hO⟩ := X₁.ctorThrowS hexec htr (own := own) (cls := cls) (names := names) (ic := ic) hown' hcls hnames h (fun x hx => nomatch hx) hfX hkX hcellA (by rw [hhp, hT]; exact Nat.le_refl _) (msg := .ref sa) rfl
    (g := { method := m, pc := pc + 7, locals := ls, stack := .ref sa :: .ref T.heap.size :: .ref T.heap.size :: rest, locked := none }) rfl hsize rfl rfl (rest := rest) rfl
    (by rw [hb]; exact d7) (by rw [hb]; exact d10) hout hRframes (by simp only [List.map_cons, List.sum_cons, hcat]; omega) hlocks
  obtain ⟨f1, f2⟩ := vx_frame hsame
  rw [hhp] at f1 f2
  have hWs : s.WarmedH U.vm := State.WarmedH.trans hW0 hW
  have hcl : s.vm.findClass cls = some ce.cls := by
    have h9 := hO.cls
    rw [hvm] at h9
    exact h9
  have hall : s.sameButNew ({ U with vm := s.vm } : State) locs mc ms := by
    subst hA
    obtain ⟨e1, e2⟩ := hsame
    rw [State.setFrames_setFrames] at e1
    have h2 : (T.setVm s.vm).sameButNew ({ U with vm := s.vm } : State) [] (0 + 1) (0 + 6) := ⟨e1, e2⟩
    have h3 := X.same.trans h2
    rw [List.append_nil] at h3
    exact h3.mono hc hs
  refine ⟨U, ?_, .threw T.heap.size, hrun, hend, Or.inr ⟨T.heap.size, rfl, cls, ce, locs, hx U hWs.alike f1 (fun q hq => f2 q hq (fun z hz => nomatch hz)), hce, hO.vm, hcl, hWs, hall, hf⟩⟩
  refine st1 _ ?_
  show Steps p.tables e below (T1.setTop { method := m, pc := pc + 3, locals := ls, stack := .ref T.heap.size :: rest, locked := none }) _
  jvm_step X₁.here [X₁.here.top, hexec, d3', Value.category]
  exact X₁.ldcStringW hexec (own := own) (text := text) (index := is) (a := sa) hown' hstr'.1 hstr'.2
    (g := { method := m, pc := pc + 4, locals := ls, stack := .ref T.heap.size :: .ref T.heap.size :: rest, locked := none }) rfl d4' _ hsteps
end Ends
section Bodies
variable {l : Launch}
theorem vx_ofW {y : MethodName} {ws ws' : List Cond} {rm : Room} {Pc : Array Value → State → Prop} {Qc : Array Value → State → Outcome → State → Prop} {XC : String → State → State → Prop} {mc ms : Nat} {free : Addr → Prop} {cc : ByteArray} {maxL : Nat} {ret : Option FieldType}
    (hy : plainName y.cls = true) (hw : ws = Cond.code y cc maxL ret :: ws')
    (body : ∀ p e s m args below meth c s₁, BodyLoose p l y (headSpec ws rm) cc maxL ret e s m args below meth c s₁ → c.maxLocals = maxL → (∀ x ∈ c.exceptionTable.toList, False) → Pc args s →
      W p l e (headSpec ws rm).room s m args below meth c s.heap [] 0 0 (vx_MQ below Qc XC args s mc ms free) (entryFrame m args maxL)) : vx_Met l y ws rm Pc Qc XC mc ms free := by
  refine MetFree.of_bodyS (code := cc) (maxLocals := maxL) (ret := ret) hy ?_ ?_
  · intro args s m h hn
    obtain ⟨meth, c, h1, h2, h3, h4, h5, h6, -, -⟩ := Cond.code_spec hn (atoms_spec (ws := ws) h _ (by rw [hw]; exact List.mem_cons_self))
    exact ⟨meth, c, h1, h2, h3, h4, h5, h6⟩
  · intro p e s m args below meth c s₁ B hml hP _
    have hh0 : s₁.heap = s.heap := by rw [B.state]; rfl
    have ht : ∀ x ∈ c.exceptionTable.toList, False := by
      obtain ⟨meth9, c9, h1, h2, -, -, -, -, h7, -⟩ := Cond.code_spec B.named (atoms_spec (ws := ws) B.pre _ (by rw [hw]; exact List.mem_cons_self))
      cases Option.some.inj (h1.symm.trans B.method)
      cases Option.some.inj (h2.symm.trans (Stand.of_body B).code)
      intro x hx
      rw [Array.isEmpty_iff.mp h7] at hx
      cases hx
    obtain ⟨t, a1, o, b1, b2, b3⟩ := body p e s m args below meth c s₁ B hml ht hP s₁ hh0 (Stand.of_body B)
    exact ⟨t, o, a1, b1, b2, b3⟩
/-- the table of a body with handlers -/
theorem vx_table {p : Program} {x y : MethodName} {S : Spec} {cc bytes : ByteArray} {maxL maxL' : Nat} {ret ret' : Option FieldType} {e : Env} {s s₁ : State} {m : MethodId} {args : Array Value} {below : List Frame} {meth : Method} {c : Code} {hh : List (Nat × Nat × Nat × Nat)}
    (B : BodyLoose p l y S cc maxL ret e s m args below meth c s₁) (h : (Cond.codeWith y bytes maxL' ret' hh).before args s = true) : c.exceptionTable.toList = tableOf hh := by
  obtain ⟨m9, meth9, c9, hn9, h1, h2, -, -, h6, -⟩ := Cond.codeWith_spec h
  cases Option.some.inj (hn9.symm.trans B.named)
  cases Option.some.inj (h1.symm.trans B.method)
  cases Option.some.inj (h2.symm.trans (Stand.of_body B).code)
  rw [← h6, table_eq]
end Bodies
end VXA
/-! ===== END ===== -/
/-! ===== BEGIN a static call of a method with an exception table ===== -/
section VXS
variable {p : Program} {l : Launch} {e : Env} {R : Room} {s : State} {m : MethodId} {args : Array Value} {below : List Frame} {meth : Method} {c : Code} {T : State} {H : Heap} {locs : List Loc} {cells slots : Nat}
abbrev vx_CSW (R : Room) (s : State) (args : Array Value) (own : String) (index : Nat) (y : MethodName) (bytes : ByteArray) (maxL : Nat) (ret : Option FieldType) (hh : List (Nat × Nat × Nat × Nat)) (ws : List Cond) (rm : Room) (mc ms n : Nat) : Prop :=
  (rm.cells = mc ∧ rm.slots = ms ∧ rm.frames + 1 ≤ R.frames ∧ 8 + (maxL + 11) + rm.locals ≤ R.locals ∧ (∀ w ∈ ws, ∀ (a' : Array Value) (U : State), s.WarmedH U.vm → w.before a' U = true) ∧ Cond.codeWith y bytes maxL ret hh ∈ ws) ∧
  (Cond.codeWith y bytes maxL ret hh).before args s = true ∧ (Cond.initialized y.cls).before args s = true ∧ (y.cls ≠ "java/lang/invoke/MethodHandle" ∧ y.cls ≠ "java/lang/invoke/VarHandle") ∧
  (∀ sig, parseMethodDescriptor y.desc = some sig → n = sig.parameters.length) ∧ (Cond.methodLink own index y).before args s = true ∧ (Cond.static y).before args s = true
theorem vx_cwSW {own : String} {index maxL mc ms : Nat} {y : MethodName} {bytes : ByteArray} {ret : Option FieldType} {hh : List (Nat × Nat × Nat × Nat)} {Ts ws ws' : List Cond} {rm : Room} (n : Nat) (ht : ∀ w ∈ Ts, w.before args s = true) (hT : GoodIn Ts (va_wsS own index y ws)) (hw : ws = Cond.codeWith y bytes maxL ret hh :: ws') (hrc : rm.cells = mc) (hrs : rm.slots = ms)
    (hd : y.cls ≠ "java/lang/invoke/MethodHandle" ∧ y.cls ≠ "java/lang/invoke/VarHandle" ∧ (parseMethodDescriptor y.desc).map (fun d => d.parameters.length) = some n) (hR : rm.frames + 1 ≤ R.frames ∧ 8 + (maxL + 11) + rm.locals ≤ R.locals) :
    vx_CSW R s args own index y bytes maxL ret hh ws rm mc ms n := by
  have ok : ∀ w ∈ va_wsS own index y ws, w.before args s = true := fun w h => ht w (hT w h).1
  have hG : GoodIn Ts ws := fun w h => hT w (by unfold va_wsS; exact List.mem_append_right _ h)
  have hc : Cond.codeWith y bytes maxL ret hh ∈ ws := by rw [hw]; exact List.mem_cons_self
  refine ⟨⟨hrc, hrs, hR.1, hR.2, pay_in ht hG, hc⟩, ht _ (hG _ hc).1, ok _ (by simp [va_wsS]), ⟨hd.1, hd.2.1⟩, fun sig h => ?_, ok _ (by simp [va_wsS]), ok _ (by simp [va_wsS])⟩
  have h2 := hd.2.2
  rw [h] at h2
  exact (Option.some.inj h2).symm
theorem vx_callSW (X : Stand p l e R s m args below meth c T locs cells slots) (hexec : p.tables.exec = Jvm.exec) {own : String} {index : Nat} {y : MethodName} {bytes : ByteArray} {maxL : Nat} {ret : Option FieldType} {hh : List (Nat × Nat × Nat × Nat)}
    (hown : s.vm.findClass own = some m.cls) (hlink : (Cond.methodLink own index y).before args s = true) (hstat : (Cond.static y).before args s = true) (hinit : (Cond.initialized y.cls).before args s = true)
    (hcode : (Cond.codeWith y bytes maxL ret hh).before args s = true) (hy : y.cls ≠ "java/lang/invoke/MethodHandle" ∧ y.cls ≠ "java/lang/invoke/VarHandle")
    {W9 : Nat} {Pre : Pt → Array Value → Prop} {Post : Pt → Array Value → Option Value → Pt → Prop} (hK : Back l R p e below s args y 3 W9 Pre Post)
    {g : JFrame} (hg : g.method = m) (hsize : g.locals.size = c.maxLocals) {argsL rest : List Value} (hlen : ∀ sig, parseMethodDescriptor y.desc = some sig → argsL.length = sig.parameters.length)
    (hstack : g.stack = argsL.reverse ++ rest) (hW : 2 * g.monitorRoom + (rest.map fun v => v.category).sum ≤ W9) (hdg : decode c.code g.pc = .ok (.invokestatic index, 3))
    (hpre : ∀ vm₁, s.WarmedH vm₁ → Pre ⟨T.setVm vm₁, locs, cells, slots⟩ argsL.toArray) :
    ∃ (v : Option Value) (vm₁ : Vm) (B : Pt), s.WarmedH vm₁ ∧ Stand p l e R s m args below meth c B.U B.locs B.cells B.slots ∧ Post ⟨T.setVm vm₁, locs, cells, slots⟩ argsL.toArray v B ∧
      ∀ target, Steps p.tables e below (B.U.setTop { g with pc := g.pc + 3, stack := v.toList ++ rest }) target → Steps p.tables e below (T.setTop g) target := by
  obtain ⟨mk, methM, cM, hnamed, hmethM, -, -, -, -, -, -, hsigM⟩ := Cond.codeWith_spec hcode
  have hstatic : methM.isStatic = true := Cond.static_spec hnamed hmethM hstat
  obtain ⟨kP, hkP, -⟩ := className_of_methodNamed hnamed
  have hinitP : kP.init = .initialized := Cond.initialized_spec (findClass_of_methodNamed hnamed) hkP hinit
  obtain ⟨vm₁, X₁, hstep₁⟩ := X.invokestatic hexec hown hlink hnamed hmethM hstatic hkP hinitP hy (g := g) hg (argsL := argsL) (rest := rest) (hlen _ hsigM) hstack hdg
  obtain ⟨v, B, X', hpost, hsteps⟩ := hK m meth c ⟨T.setVm vm₁, locs, cells, slots⟩ { g with stack := rest } (.invokestatic index) mk argsL.toArray X₁ hg hsize hdg hW (X₁.named hnamed) (hpre vm₁ X₁.warmed)
  exact ⟨v, vm₁, B, X₁.warmed, X', hpost, fun target h => hstep₁ _ fun acts => by rw [doInvoke_state]; exact hsteps.trans h⟩
theorem vx_runSW {y : MethodName} {bytes cc : ByteArray} {maxL nL mc ms n index : Nat} {ret : Option FieldType} {hh : List (Nat × Nat × Nat × Nat)} {ws : List Cond} {rm : Room} {Pc : Array Value → State → Prop} {Qc : Array Value → State → Outcome → State → Prop} {free : Addr → Prop} {Ts : List Cond} {own : String} {As rest : List Value} {g : JFrame}
    (S : CallFix p m c cc nL s args Ts own) (hM : Met l y ws rm Pc Qc mc ms free) (cw : vx_CSW R s args own index y bytes maxL ret hh ws rm mc ms n) (hp : PreS s H Pc As)
    (hg : g.method = m) (hn : As.length = n) (hsize : g.locals.size = nL) (hstack : g.stack = As.reverse ++ rest) (hW : 2 * g.monitorRoom + (rest.map fun v => v.category).sum ≤ 8) (hdg : decode cc g.pc = .ok (.invokestatic index, 3)) (hf : cells + mc ≤ R.cells ∧ slots + ms ≤ R.slots) :
    va_Run p l e R s m args below meth c H locs cells slots mc ms g rest (Qc As.toArray) (free) := by
  obtain ⟨⟨hrc, hrs, hfr, hlo, hws, hcw⟩, hcode, hini, hy, hlen, hl, hstt⟩ := cw
  have hK : Back l R p e below s args y 3 8 (PreOf R mc ms Pc) (PostOf Qc mc ms free) := va_backW (hh := hh) (bytes := bytes) (maxL := maxL) (ret := ret) hM hp.1 hrc hrs hfr hlo hws hcw (fun a' U hW => word_at hW (Or.inl (by first | rfl | simp [Cond.onTables, Cond.keeps, Cond.steady])) hini)
  obtain ⟨hx, hb, hml, ho, -⟩ := S
  intro T hT X
  obtain ⟨v, vm₁, ⟨U', l2, c2, s2⟩, hW₁, X', ⟨g', mk, t, L, e1, e2, hq, h1, hL, h2, h3⟩, st⟩ := vx_callSW X hx (hh := hh) (bytes := bytes) (maxL := maxL) (ret := ret) ho hl hstt hini hcode hy hK hg (hsize.trans hml.symm) (argsL := As) (rest := rest) (fun sig h => hn.trans (hlen sig h)) hstack hW (by rw [hb]; exact hdg)
    (fun vm₁ hW₁ => ⟨hf.1, hf.2, hp.2 (T.setVm vm₁) hT hW₁⟩)
  dsimp only [Pt.U, Pt.locs, Pt.cells, Pt.slots] at X' e1 e2 h1 h2 h3 st
  subst h1; subst h2; subst h3
  exact ⟨v, (T.setVm vm₁).calling g' mk As.toArray, t, U', L, hT, X', hL, e1, e2, hq, st⟩
/-- not caught here, past rows that name other classes: it goes on to the caller -/
theorem vx_outP {p : Program} {l : Launch} {e : Env} {R : Room} {s : State} {m : MethodId} {args : Array Value} {below : List Frame} {meth : Method} {c : Code} {H : Heap} {locs : List Loc} {cells slots : Nat} {free : Addr → Prop} {ls : Array Slot} {rest : List Value} {Qc : Array Value → State → Outcome → State → Prop} {XC : String → State → State → Prop}
    {pc : Nat} {own E : String} {ce : Cell} {q : Addr} {mc ms : Nat} (hown : s.vm.findClass own = some m.cls) (hlocks : meth.locks = false)
    (hpass : ∀ z ∈ c.exceptionTable.toList, covers z pc = false ∨ (z.catchType ≠ 0 ∧ ∃ nm : String, (Cond.classLink own z.catchType nm).before args s = true ∧ va_Nc E nm s)) (hcell : H[q]? = some ce) (hv : ce.vm = .none) (hcl : s.vm.findClass E = some ce.cls)
    (hx : ∀ t : State, t.heap = H → s.vm.Alike t.vm → XC E s t) (hf : ∀ z ∈ locs, free z.base) (hc : cells ≤ mc) (hs : slots ≤ ms) :
    vx_W p l e R s m args below meth c H locs cells slots (vx_MQ below Qc XC args s mc ms free) (F0 m pc ls rest) q := by
  intro T hT X
  have hpl : e.platform.magicAccessors = ({} : Platform).magicAccessors := by rw [X.admits.platform]
  obtain ⟨vm', hW', X', st⟩ := X.outThrough hlocks q (g := F0 m pc ls rest) rfl rfl rfl (cell := ce) (by rw [hT]; exact hcell) (by rw [hv]; rfl)
    (by obtain ⟨k9, h9, -⟩ := Vm.findClass_spec hcl; exact ⟨k9, h9⟩) (fun z hz => by
      rcases hpass z hz with h | ⟨hz0, nm, hl1, hn1⟩
      · exact Or.inl h
      · obtain ⟨c6, hc6, hcl6⟩ := Cond.classLink_spec hown hl1 e.platform hpl
        obtain ⟨a8, b8, h1, h2, h3⟩ := hn1
        cases Option.some.inj (h1.symm.trans hcl)
        cases Option.some.inj (h2.symm.trans hc6)
        exact Or.inr ⟨hz0, _, hcl6, h3⟩)
  obtain ⟨g₀, hfr⟩ := X'.frames_eq
  have hcell9 : ((T.setVm vm').setFrames (.throwing q :: below)).heap[q]? = some ce := by
    show T.heap[q]? = some ce
    rw [hT]; exact hcell
  have hend : Ended ((T.setVm vm').setFrames (.throwing q :: below)) below (.threw q) := State.frames_setFrames _ (State.cur_lt_of_frames hfr)
  refine ⟨(T.setVm vm').setFrames (.throwing q :: below), ?_, .threw q, X'.here.running, hend, Or.inr ⟨q, rfl, E, ce, locs, hx _ hT (X'.ends _).1.alike, hcell9, hv, hcl, (X'.ends _).1, (X'.ends _).2.mono hc hs, hf⟩⟩
  rw [X.pushThrowing_eq]
  exact st
/-- a thing of a world lies in the heap -/
theorem vx_lt {D : va_G} {cl : List vw_C} {ws : va_W} {H1 : Heap} (h : va_P D cl ws H1) {k : Nat} {q : Nat × va_E} (hk : ws[k]? = some q) : q.1 < H1.size := (h k q hk).lt
end VXS
/-! ===== END ===== -/
/-! ===== BEGIN methods with a table of their own: called by a name, returning or throwing ===== -/
section VXH
/-! vx_backW, vx_callVX, vx_callSX, vx_callVW, vx_runVW, vx_runVX, vx_runSX, vx_ofWH follow the same proofs as their sisters above (Free/Laws.lean, Shelf42/LK1.lean); vx_outP calls Shelf42/NT130.lean (outThrough). -/
section
variable {l : Launch} {R : Room} {p : Program} {e : Env} {below : List Frame} {s : State} {sargs : Array Value} {y : MethodName} {len W9 : Nat}
theorem vx_backW {ws : List Cond} {rm : Room} {Pc : Array Value → State → Prop} {Qc : Array Value → State → Outcome → State → Prop} {XC : String → State → State → Prop} {mc ms : Nat} {free : Addr → Prop} {bytes : ByteArray} {maxL : Nat} {ret : Option FieldType} {hh : List (Nat × Nat × Nat × Nat)}
    (hM : vx_Met l y ws rm Pc Qc XC mc ms free) (hblind : FrameBlind Pc) (hrc : rm.cells = mc) (hrs : rm.slots = ms)
    (hframes : rm.frames + 1 ≤ R.frames) (hlocals : W9 + (maxL + 11) + rm.locals ≤ R.locals)
    (hws : ∀ w ∈ ws, ∀ a' U, s.WarmedH U.vm → w.before a' U = true) (hcode : Cond.codeWith y bytes maxL ret hh ∈ ws) (hinit : ∀ a' U, s.WarmedH U.vm → (Cond.initialized y.cls).before a' U = true) :
    vx_Back l R p e below s sargs y len W9 (PreOf R mc ms Pc) (PostOf Qc mc ms free) (vx_Post XC mc ms free) := by
  intro m meth c A g ig mk a X hg hsize hdg hW hn hp
  have h1 : (headSpec ws rm).pre.before a A.U = true := atoms_intro fun w hw => hws w hw _ _ X.warmed
  have h2 : (Cond.codeWith y bytes maxL ret hh).before a A.U = true := hws _ hcode _ _ X.warmed
  have h3 : (Cond.initialized y.cls).before a A.U = true := hinit _ _ X.warmed
  have h4 : A.cells + (headSpec ws rm).room.cells ≤ R.cells := by rw [show (headSpec ws rm).room.cells = mc from hrc]; exact hp.1
  have h5 : A.slots + (headSpec ws rm).room.slots ≤ R.slots := by rw [show (headSpec ws rm).room.slots = ms from hrs]; exact hp.2.1
  have hPc : Pc a (A.U.calling g mk a) := hblind _ _ _ _ hp.2.2
  obtain ⟨U, Ls, c0, s0⟩ := A
  dsimp only [Pt.U, Pt.locs, Pt.cells, Pt.slots] at h1 h2 h3 h4 h5 X hn hPc ⊢
  obtain ⟨m9, methY, cY, hn9, hmY, hcY, -, hlY, -⟩ := Cond.codeWith_spec h2
  cases Option.some.inj (hn9.symm.trans hn)
  obtain ⟨kY, hkY, -⟩ := className_of_methodNamed hn
  have hinitY : kY.init = .initialized := Cond.initialized_spec (findClass_of_methodNamed hn) hkY h3
  have h : At U g.method c below := by rw [hg]; exact X.here
  have hlocals9 : W9 + (maxL + 11) + (headSpec ws rm).room.locals ≤ R.locals := hlocals
  have happ : (headSpec ws rm).appliesLoose y e.platform (U.calling g mk a) = true :=
    Spec.appliesLoose_calling (g := g) h hdg hn hkY hinitY
      (X.room_calling (g := g) (R' := (headSpec ws rm).room) hsize hmY hcY hframes (by rw [hlY]; omega) h4 h5) h1
  obtain ⟨mid, hmid⟩ := h.above
  have hfr : (U.setTop g).frames = (.java g :: mid) ++ below := by rw [State.frames_setTop' g h.top, hmid]; rfl
  obtain ⟨o, s₂, hsteps, -, hend, hq⟩ := Steps.callFree hM p X.admits X.cas X.clock (acts := []) hfr happ hPc trivial
  have hq' : vx_Q Qc XC mc ms free a (U.calling g mk a) o s₂ := hq
  rw [State.frames_setTop' g h.top] at hend
  obtain ⟨g₀, hg0⟩ := Option.isSome_iff_exists.mp h.top
  obtain ⟨r, hr⟩ := State.topJava?_eq_some.mp hg0
  have hr' : (({ U with heap := s₂.heap, slotsUsed := s₂.slotsUsed } : State).setVm s₂.vm).frames = .java g₀ :: r := hr
  rcases hq' with ⟨hqc, L, hfe, hL⟩ | ⟨q, rfl, E, ce, L, hx, hce, hcv, hcl, hW₂, hsm, hL⟩
  · obtain ⟨⟨v, rfl⟩, hW₂, e2, q2, q3, q4, q5, q6⟩ := id hfe
    have e3 : s₂ = ({ (U.calling g mk a).setFrames s₂.frames with heap := s₂.heap, slotsUsed := s₂.slotsUsed } : State).setVm s₂.vm := by
      have : s₂ = ({ s₂ with vm := (U.calling g mk a).vm } : State).setVm s₂.vm := rfl
      rw [e2] at this
      exact this
    obtain ⟨c₂, i₂, len₂, hc₂, hd₂, hf₂⟩ := hend
    have hW' : U.WarmedH s₂.vm := hW₂
    have hcc : c₂ = c := by
      have h1 : s₂.code? g.method = U.code? g.method := by
        rw [State.code?_eq, State.code?_eq, hW'.alike.method?]
      exact Option.some.inj (hc₂.symm.trans (h1.trans h.code))
    subst hcc
    have hlen : len₂ = len := by rw [hdg] at hd₂; cases hd₂; rfl
    subst hlen
    have hs₂ : s₂ = (({ U with heap := s₂.heap, slotsUsed := s₂.slotsUsed } : State).setVm s₂.vm).setTop { g with pc := g.pc + len₂, stack := v.toList ++ g.stack } := by
      refine e3.trans ?_
      rw [hf₂, State.calling_eq h.top, State.setFrames_setFrames, State.setTop_of_frames _ hr', hr]
      rfl
    have hsame : U.sameButNew ({ U with heap := s₂.heap, slotsUsed := s₂.slotsUsed } : State) L mc ms := by
      refine ⟨?_, q2, q3, q4, q5, q6⟩
      obtain ⟨t, ht, -⟩ := State.frames_cons hr
      show ({ U with heap := s₂.heap, slotsUsed := s₂.slotsUsed } : State) = { U.setFrames U.frames with heap := s₂.heap, slotsUsed := s₂.slotsUsed }
      rw [State.setFrames_self ht]
    subst hg
    refine Or.inl ⟨v, ⟨(({ U with heap := s₂.heap, slotsUsed := s₂.slotsUsed } : State).setVm s₂.vm), Ls ++ L, c0 + mc, s0 + ms⟩,
      ⟨X.admits, X.cas, X.clock, X.frames, X.room, X.hears, X.method, X.code, (X.here.setHeapUsed s₂.heap s₂.slotsUsed).setVm hW'.alike, X.tail, State.WarmedH.trans X.warmed hW', X.limits, X.bytes, X.same.trans (hsame.setVm s.vm)⟩,
      ⟨g, mk, s₂, L, rfl, rfl, hqc, rfl, hL, rfl, rfl⟩, ?_⟩
    show Steps p.tables e below _ ((({ U with heap := s₂.heap, slotsUsed := s₂.slotsUsed } : State).setVm s₂.vm).setTop { g with pc := g.pc + len₂, stack := v.toList ++ g.stack })
    rw [← hs₂]
    exact hsteps
  · obtain ⟨e2, q2, q3, q4, q5, q6⟩ := id hsm
    have e3 : s₂ = ({ (U.calling g mk a).setFrames s₂.frames with heap := s₂.heap, slotsUsed := s₂.slotsUsed } : State).setVm s₂.vm := by
      have : s₂ = ({ s₂ with vm := (U.calling g mk a).vm } : State).setVm s₂.vm := rfl
      rw [e2] at this
      exact this
    have hf₂ : s₂.frames = .throwing q :: .java g :: U.frames.tail := hend
    have hW' : U.WarmedH s₂.vm := hW₂
    have hs₂ : s₂ = ((({ U with heap := s₂.heap, slotsUsed := s₂.slotsUsed } : State).setVm s₂.vm).setTop g).pushFrame (.throwing q) := by
      refine e3.trans ?_
      rw [hf₂, State.calling_eq h.top, State.setFrames_setFrames, State.pushFrame, State.frames_setTop _ hr', State.setTop_of_frames _ hr', State.setFrames_setFrames, hr]
      rfl
    have hsame : U.sameButNew ({ U with heap := s₂.heap, slotsUsed := s₂.slotsUsed } : State) L mc ms := by
      refine ⟨?_, q2, q3, q4, q5, q6⟩
      obtain ⟨t, ht, -⟩ := State.frames_cons hr
      show ({ U with heap := s₂.heap, slotsUsed := s₂.slotsUsed } : State) = { U.setFrames U.frames with heap := s₂.heap, slotsUsed := s₂.slotsUsed }
      rw [State.setFrames_self ht]
    subst hg
    refine Or.inr ⟨q, ⟨(({ U with heap := s₂.heap, slotsUsed := s₂.slotsUsed } : State).setVm s₂.vm), Ls ++ L, c0 + mc, s0 + ms⟩,
      ⟨X.admits, X.cas, X.clock, X.frames, X.room, X.hears, X.method, X.code, (X.here.setHeapUsed s₂.heap s₂.slotsUsed).setVm hW'.alike, X.tail, State.WarmedH.trans X.warmed hW', X.limits, X.bytes, X.same.trans (hsame.setVm s.vm)⟩,
      ⟨g, mk, s₂, L, E, ce, rfl, rfl, hx, hce, hcv, hcl, rfl, hL, rfl, rfl⟩, ?_⟩
    show Steps p.tables e below _ (((({ U with heap := s₂.heap, slotsUsed := s₂.slotsUsed } : State).setVm s₂.vm).setTop g).pushFrame (.throwing q))
    rw [← hs₂]
    exact hsteps
end
variable {p : Program} {l : Launch} {e : Env} {R : Room} {s : State} {m : MethodId} {args : Array Value} {below : List Frame} {meth : Method} {c : Code} {T : State} {H : Heap} {locs : List Loc} {cells slots : Nat}
theorem vx_callVX (X : Stand p l e R s m args below meth c T locs cells slots) (hexec : p.tables.exec = Jvm.exec) {own C : String} {index : Nat} {y : MethodName} {bytes : ByteArray} {maxL : Nat} {ret : Option FieldType} {hh : List (Nat × Nat × Nat × Nat)}
    (hown : s.vm.findClass own = some m.cls) (hlink : (Cond.methodLink own index y).before args s = true) (hinst : (Cond.instanceMethod y).before args s = true) (hsel : (Cond.selects C y y).before args s = true)
    (hcode : (Cond.codeWith y bytes maxL ret hh).before args s = true) (hy : y.cls ≠ "java/lang/invoke/MethodHandle" ∧ y.cls ≠ "java/lang/invoke/VarHandle")
    {W9 : Nat} {Pre : Pt → Array Value → Prop} {Post : Pt → Array Value → Option Value → Pt → Prop} {PostX : Pt → Array Value → Addr → Pt → Prop} (hK : vx_Back l R p e below s args y 3 W9 Pre Post PostX)
    {b : Addr} {cellB : Cell} (hcell : T.heap[b]? = some cellB) (hobj : cellB.vm.isStatics = false) (hcls : s.vm.findClass C = some cellB.cls)
    {g : JFrame} (hg : g.method = m) (hsize : g.locals.size = c.maxLocals) {argsL rest : List Value} (hlen : ∀ sig, parseMethodDescriptor y.desc = some sig → argsL.length = sig.parameters.length)
    (hstack : g.stack = argsL.reverse ++ .ref b :: rest) (hW : 2 * g.monitorRoom + (rest.map fun v => v.category).sum ≤ W9) (hdg : decode c.code g.pc = .ok (.invokevirtual index, 3))
    (hpre : ∀ vm₁, s.WarmedH vm₁ → Pre ⟨T.setVm vm₁, locs, cells, slots⟩ (Value.ref b :: argsL).toArray) :
    (∃ (v : Option Value) (vm₁ : Vm) (B : Pt), s.WarmedH vm₁ ∧ Stand p l e R s m args below meth c B.U B.locs B.cells B.slots ∧ Post ⟨T.setVm vm₁, locs, cells, slots⟩ (Value.ref b :: argsL).toArray v B ∧
      ∀ target, Steps p.tables e below (B.U.setTop { g with pc := g.pc + 3, stack := v.toList ++ rest }) target → Steps p.tables e below (T.setTop g) target) ∨
    (∃ (q : Addr) (vm₁ : Vm) (B : Pt), s.WarmedH vm₁ ∧ Stand p l e R s m args below meth c B.U B.locs B.cells B.slots ∧ PostX ⟨T.setVm vm₁, locs, cells, slots⟩ (Value.ref b :: argsL).toArray q B ∧
      Steps p.tables e below (T.setTop g) ((B.U.setTop { g with stack := rest }).pushFrame (.throwing q))) := by
  obtain ⟨mk, methM, hnamed, hmethM, hstM, habM⟩ := Cond.instanceMethod_spec hinst
  obtain ⟨m8, methM', cM, hn8, hmethM', -, -, -, -, -, -, hsigM⟩ := Cond.codeWith_spec hcode
  cases Option.some.inj (hn8.symm.trans hnamed)
  cases hmethM.symm.trans hmethM'
  obtain ⟨c2, r2, m2, q1, q2, q3, q4, kP, hkP, hkPi⟩ := Cond.selects_spec hsel
  cases hcls.symm.trans q1
  cases (State.methodFound?_of_named hnamed hy).symm.trans q2
  cases hnamed.symm.trans q3
  have hselP : selectMethod e.platform s.vm cellB.cls mk = .method mk := by rw [Launch.admits_selectMethod X.admits]; exact q4
  obtain ⟨vm₁, X₁, hstep₁⟩ := X.invokevirtual hexec hown hlink hnamed hmethM hstM hkP hkPi hy (a := b) (cell := cellB) hcell
    (fun z h => by rw [h] at hobj; cases hobj) hselP hmethM habM hkP hkPi (g := g) hg (argsL := argsL) (rest := rest) (hlen _ hsigM) hstack hdg
  rcases hK m meth c ⟨T.setVm vm₁, locs, cells, slots⟩ { g with stack := rest } (.invokevirtual index) mk (Value.ref b :: argsL).toArray X₁ hg hsize hdg hW (X₁.named hnamed) (hpre vm₁ X₁.warmed) with ⟨v, B, X', hpost, hsteps⟩ | ⟨q, B, X', hpost, hsteps⟩
  · exact Or.inl ⟨v, vm₁, B, X₁.warmed, X', hpost, fun target h => hstep₁ _ fun acts => by rw [doInvoke_state]; exact hsteps.trans h⟩
  · exact Or.inr ⟨q, vm₁, B, X₁.warmed, X', hpost, hstep₁ _ fun acts => by rw [doInvoke_state]; exact hsteps⟩
theorem vx_callSX (X : Stand p l e R s m args below meth c T locs cells slots) (hexec : p.tables.exec = Jvm.exec) {own : String} {index : Nat} {y : MethodName} {bytes : ByteArray} {maxL : Nat} {ret : Option FieldType} {hh : List (Nat × Nat × Nat × Nat)}
    (hown : s.vm.findClass own = some m.cls) (hlink : (Cond.methodLink own index y).before args s = true) (hstat : (Cond.static y).before args s = true) (hinit : (Cond.initialized y.cls).before args s = true)
    (hcode : (Cond.codeWith y bytes maxL ret hh).before args s = true) (hy : y.cls ≠ "java/lang/invoke/MethodHandle" ∧ y.cls ≠ "java/lang/invoke/VarHandle")
    {W9 : Nat} {Pre : Pt → Array Value → Prop} {Post : Pt → Array Value → Option Value → Pt → Prop} {PostX : Pt → Array Value → Addr → Pt → Prop} (hK : vx_Back l R p e below s args y 3 W9 Pre Post PostX)
    {g : JFrame} (hg : g.method = m) (hsize : g.locals.size = c.maxLocals) {argsL rest : List Value} (hlen : ∀ sig, parseMethodDescriptor y.desc = some sig → argsL.length = sig.parameters.length)
    (hstack : g.stack = argsL.reverse ++ rest) (hW : 2 * g.monitorRoom + (rest.map fun v => v.category).sum ≤ W9) (hdg : decode c.code g.pc = .ok (.invokestatic index, 3))
    (hpre : ∀ vm₁, s.WarmedH vm₁ → Pre ⟨T.setVm vm₁, locs, cells, slots⟩ argsL.toArray) :
    (∃ (v : Option Value) (vm₁ : Vm) (B : Pt), s.WarmedH vm₁ ∧ Stand p l e R s m args below meth c B.U B.locs B.cells B.slots ∧ Post ⟨T.setVm vm₁, locs, cells, slots⟩ argsL.toArray v B ∧
      ∀ target, Steps p.tables e below (B.U.setTop { g with pc := g.pc + 3, stack := v.toList ++ rest }) target → Steps p.tables e below (T.setTop g) target) ∨
    (∃ (q : Addr) (vm₁ : Vm) (B : Pt), s.WarmedH vm₁ ∧ Stand p l e R s m args below meth c B.U B.locs B.cells B.slots ∧ PostX ⟨T.setVm vm₁, locs, cells, slots⟩ argsL.toArray q B ∧
      Steps p.tables e below (T.setTop g) ((B.U.setTop { g with stack := rest }).pushFrame (.throwing q))) := by
  obtain ⟨mk, methM, cM, hnamed, hmethM, -, -, -, -, -, -, hsigM⟩ := Cond.codeWith_spec hcode
  have hstatic : methM.isStatic = true := Cond.static_spec hnamed hmethM hstat
  obtain ⟨kP, hkP, -⟩ := className_of_methodNamed hnamed
  have hinitP : kP.init = .initialized := Cond.initialized_spec (findClass_of_methodNamed hnamed) hkP hinit
  obtain ⟨vm₁, X₁, hstep₁⟩ := X.invokestatic hexec hown hlink hnamed hmethM hstatic hkP hinitP hy (g := g) hg (argsL := argsL) (rest := rest) (hlen _ hsigM) hstack hdg
  rcases hK m meth c ⟨T.setVm vm₁, locs, cells, slots⟩ { g with stack := rest } (.invokestatic index) mk argsL.toArray X₁ hg hsize hdg hW (X₁.named hnamed) (hpre vm₁ X₁.warmed) with ⟨v, B, X', hpost, hsteps⟩ | ⟨q, B, X', hpost, hsteps⟩
  · exact Or.inl ⟨v, vm₁, B, X₁.warmed, X', hpost, fun target h => hstep₁ _ fun acts => by rw [doInvoke_state]; exact hsteps.trans h⟩
  · exact Or.inr ⟨q, vm₁, B, X₁.warmed, X', hpost, hstep₁ _ fun acts => by rw [doInvoke_state]; exact hsteps⟩
theorem vx_callVW (X : Stand p l e R s m args below meth c T locs cells slots) (hexec : p.tables.exec = Jvm.exec) {own C : String} {index : Nat} {y : MethodName} {bytes : ByteArray} {maxL : Nat} {ret : Option FieldType} {hh : List (Nat × Nat × Nat × Nat)}
    (hown : s.vm.findClass own = some m.cls) (hlink : (Cond.methodLink own index y).before args s = true) (hinst : (Cond.instanceMethod y).before args s = true) (hsel : (Cond.selects C y y).before args s = true)
    (hcode : (Cond.codeWith y bytes maxL ret hh).before args s = true) (hy : y.cls ≠ "java/lang/invoke/MethodHandle" ∧ y.cls ≠ "java/lang/invoke/VarHandle")
    {W9 : Nat} {Pre : Pt → Array Value → Prop} {Post : Pt → Array Value → Option Value → Pt → Prop} (hK : Back l R p e below s args y 3 W9 Pre Post)
    {b : Addr} {cellB : Cell} (hcell : T.heap[b]? = some cellB) (hobj : cellB.vm.isStatics = false) (hcls : s.vm.findClass C = some cellB.cls)
    {g : JFrame} (hg : g.method = m) (hsize : g.locals.size = c.maxLocals) {argsL rest : List Value} (hlen : ∀ sig, parseMethodDescriptor y.desc = some sig → argsL.length = sig.parameters.length)
    (hstack : g.stack = argsL.reverse ++ .ref b :: rest) (hW : 2 * g.monitorRoom + (rest.map fun v => v.category).sum ≤ W9) (hdg : decode c.code g.pc = .ok (.invokevirtual index, 3))
    (hpre : ∀ vm₁, s.WarmedH vm₁ → Pre ⟨T.setVm vm₁, locs, cells, slots⟩ (Value.ref b :: argsL).toArray) :
    ∃ (v : Option Value) (vm₁ : Vm) (B : Pt), s.WarmedH vm₁ ∧ Stand p l e R s m args below meth c B.U B.locs B.cells B.slots ∧ Post ⟨T.setVm vm₁, locs, cells, slots⟩ (Value.ref b :: argsL).toArray v B ∧
      ∀ target, Steps p.tables e below (B.U.setTop { g with pc := g.pc + 3, stack := v.toList ++ rest }) target → Steps p.tables e below (T.setTop g) target := by
  obtain ⟨mk, methM, hnamed, hmethM, hstM, habM⟩ := Cond.instanceMethod_spec hinst
  obtain ⟨m8, methM', cM, hn8, hmethM', -, -, -, -, -, -, hsigM⟩ := Cond.codeWith_spec hcode
  cases Option.some.inj (hn8.symm.trans hnamed)
  cases hmethM.symm.trans hmethM'
  obtain ⟨c2, r2, m2, q1, q2, q3, q4, kP, hkP, hkPi⟩ := Cond.selects_spec hsel
  cases hcls.symm.trans q1
  cases (State.methodFound?_of_named hnamed hy).symm.trans q2
  cases hnamed.symm.trans q3
  have hselP : selectMethod e.platform s.vm cellB.cls mk = .method mk := by rw [Launch.admits_selectMethod X.admits]; exact q4
  obtain ⟨vm₁, X₁, hstep₁⟩ := X.invokevirtual hexec hown hlink hnamed hmethM hstM hkP hkPi hy (a := b) (cell := cellB) hcell
    (fun z h => by rw [h] at hobj; cases hobj) hselP hmethM habM hkP hkPi (g := g) hg (argsL := argsL) (rest := rest) (hlen _ hsigM) hstack hdg
  obtain ⟨v, B, X', hpost, hsteps⟩ := hK m meth c ⟨T.setVm vm₁, locs, cells, slots⟩ { g with stack := rest } (.invokevirtual index) mk (Value.ref b :: argsL).toArray X₁ hg hsize hdg hW (X₁.named hnamed) (hpre vm₁ X₁.warmed)
  exact ⟨v, vm₁, B, X₁.warmed, X', hpost, fun target h => hstep₁ _ fun acts => by rw [doInvoke_state]; exact hsteps.trans h⟩
abbrev vx_CVW (R : Room) (s : State) (args : Array Value) (own C : String) (index : Nat) (y : MethodName) (bytes : ByteArray) (maxL : Nat) (ret : Option FieldType) (hh : List (Nat × Nat × Nat × Nat)) (ws : List Cond) (rm : Room) (mc ms n : Nat) : Prop :=
  (rm.cells = mc ∧ rm.slots = ms ∧ rm.frames + 1 ≤ R.frames ∧ 8 + (maxL + 11) + rm.locals ≤ R.locals ∧ (∀ w ∈ ws, ∀ (a' : Array Value) (U : State), s.WarmedH U.vm → w.before a' U = true) ∧ Cond.codeWith y bytes maxL ret hh ∈ ws) ∧
  (Cond.codeWith y bytes maxL ret hh).before args s = true ∧ (Cond.initialized y.cls).before args s = true ∧ (y.cls ≠ "java/lang/invoke/MethodHandle" ∧ y.cls ≠ "java/lang/invoke/VarHandle") ∧
  (∀ sig, parseMethodDescriptor y.desc = some sig → n = sig.parameters.length) ∧ (Cond.methodLink own index y).before args s = true ∧ (Cond.instanceMethod y).before args s = true ∧ (Cond.selects C y y).before args s = true
theorem vx_cwVW {own C : String} {index maxL mc ms : Nat} {y : MethodName} {bytes : ByteArray} {ret : Option FieldType} {hh : List (Nat × Nat × Nat × Nat)} {Ts ws ws' : List Cond} {rm : Room} (n : Nat) (ht : ∀ w ∈ Ts, w.before args s = true) (hT : GoodIn Ts (wsV own index C y ws)) (hw : ws = Cond.codeWith y bytes maxL ret hh :: ws') (hrc : rm.cells = mc) (hrs : rm.slots = ms)
    (hd : y.cls = C ∧ y.cls ≠ "java/lang/invoke/MethodHandle" ∧ y.cls ≠ "java/lang/invoke/VarHandle" ∧ (parseMethodDescriptor y.desc).map (fun d => d.parameters.length) = some n) (hR : rm.frames + 1 ≤ R.frames ∧ 8 + (maxL + 11) + rm.locals ≤ R.locals) :
    vx_CVW R s args own C index y bytes maxL ret hh ws rm mc ms n := by
  obtain ⟨hC, hd⟩ := hd
  subst hC
  have ok : ∀ w ∈ wsV own index y.cls y ws, w.before args s = true := fun w h => ht w (hT w h).1
  have hG : GoodIn Ts ws := fun w h => hT w (by unfold wsV; exact List.mem_append_right _ h)
  have hc : Cond.codeWith y bytes maxL ret hh ∈ ws := by rw [hw]; exact List.mem_cons_self
  refine ⟨⟨hrc, hrs, hR.1, hR.2, pay_in ht hG, hc⟩, ht _ (hG _ hc).1, ok _ (by simp [wsV]), ⟨hd.1, hd.2.1⟩, fun sig h => ?_, ok _ (by simp [wsV]), ok _ (by simp [wsV]), ok _ (by simp [wsV])⟩
  have h2 := hd.2.2
  rw [h] at h2
  exact (Option.some.inj h2).symm
theorem vx_runVW {y : MethodName} {bytes cc : ByteArray} {maxL nL mc ms n index : Nat} {ret : Option FieldType} {hh : List (Nat × Nat × Nat × Nat)} {ws : List Cond} {rm : Room} {Pc : Array Value → State → Prop} {Qc : Array Value → State → Outcome → State → Prop} {free : Addr → Prop} {Ts : List Cond} {own C : String} {b : Addr} {As rest : List Value} {g : JFrame}
    (S : CallFix p m c cc nL s args Ts own) (hM : Met l y ws rm Pc Qc mc ms free) (cw : vx_CVW R s args own C index y bytes maxL ret hh ws rm mc ms n) (hp : PreV s H C b Pc As)
    (hg : g.method = m) (hn : As.length = n) (hsize : g.locals.size = nL) (hstack : g.stack = As.reverse ++ .ref b :: rest) (hW : 2 * g.monitorRoom + (rest.map fun v => v.category).sum ≤ 8) (hdg : decode cc g.pc = .ok (.invokevirtual index, 3)) (hf : cells + mc ≤ R.cells ∧ slots + ms ≤ R.slots) :
    va_Run p l e R s m args below meth c H locs cells slots mc ms g rest (Qc (Value.ref b :: As).toArray) free := by
  obtain ⟨⟨hrc, hrs, hfr, hlo, hws, hcw⟩, hcode, hini, hy, hlen, hl, hin, hse⟩ := cw
  have hK : Back l R p e below s args y 3 8 (PreOf R mc ms Pc) (PostOf Qc mc ms free) := va_backW (hh := hh) (bytes := bytes) (maxL := maxL) (ret := ret) hM hp.1 hrc hrs hfr hlo hws hcw (fun a' U hW => word_at hW (Or.inl (by first | rfl | simp [Cond.onTables, Cond.keeps, Cond.steady])) hini)
  obtain ⟨hx, hb, hml, ho, -⟩ := S
  obtain ⟨-, ⟨cellB, hcB, hoB, hclB⟩, hPc⟩ := hp
  intro T hT X
  obtain ⟨v, vm₁, ⟨U', l2, c2, s2⟩, hW₁, X', ⟨g', mk, t, L, e1, e2, hq, h1, hL, h2, h3⟩, st⟩ := vx_callVW X hx (C := C) (hh := hh) (bytes := bytes) (maxL := maxL) (ret := ret) ho hl hin hse hcode hy hK (by rw [hT]; exact hcB) hoB hclB hg (hsize.trans hml.symm) (argsL := As) (rest := rest) (fun sig h => hn.trans (hlen sig h)) hstack hW (by rw [hb]; exact hdg)
    (fun vm₁ hW₁ => ⟨hf.1, hf.2, hPc (T.setVm vm₁) hT hW₁⟩)
  dsimp only [Pt.U, Pt.locs, Pt.cells, Pt.slots] at X' e1 e2 h1 h2 h3 st
  subst h1; subst h2; subst h3
  exact ⟨v, (T.setVm vm₁).calling g' mk (Value.ref b :: As).toArray, t, U', L, hT, X', hL, e1, e2, hq, st⟩
section
variable {y : MethodName} {bytes cc : ByteArray} {maxL nL mc ms n index : Nat} {ret : Option FieldType} {ws : List Cond} {rm : Room} {Pc : Array Value → State → Prop} {Qc : Array Value → State → Outcome → State → Prop} {XC : String → State → State → Prop} {free : Addr → Prop} {Ts : List Cond} {own C : String} {b : Addr} {As rest : List Value} {g : JFrame}
theorem vx_runVX {hh : List (Nat × Nat × Nat × Nat)} (S : CallFix p m c cc nL s args Ts own) (hM : vx_Met l y ws rm Pc Qc XC mc ms free) (cw : vx_CVW R s args own C index y bytes maxL ret hh ws rm mc ms n) (hp : PreV s H C b Pc As)
    (hg : g.method = m) (hn : As.length = n) (hsize : g.locals.size = nL) (hstack : g.stack = As.reverse ++ .ref b :: rest) (hW : 2 * g.monitorRoom + (rest.map fun v => v.category).sum ≤ 8) (hdg : decode cc g.pc = .ok (.invokevirtual index, 3)) (hf : cells + mc ≤ R.cells ∧ slots + ms ≤ R.slots) :
    vx_Run p l e R s m args below meth c H locs cells slots mc ms g rest (Qc (Value.ref b :: As).toArray) XC free := by
  obtain ⟨⟨hrc, hrs, hfr, hlo, hws, hcw⟩, hcode, hini, hy, hlen, hl, hin, hse⟩ := cw
  have hK : vx_Back l R p e below s args y 3 8 (PreOf R mc ms Pc) (PostOf Qc mc ms free) (vx_Post XC mc ms free) := vx_backW (hh := hh) (bytes := bytes) (maxL := maxL) (ret := ret) hM hp.1 hrc hrs hfr hlo hws hcw (fun a' U hW => word_at hW (Or.inl (by first | rfl | simp [Cond.onTables, Cond.keeps, Cond.steady])) hini)
  obtain ⟨hx, hb, hml, ho, -⟩ := S
  obtain ⟨-, ⟨cellB, hcB, hoB, hclB⟩, hPc⟩ := hp
  intro T hT X
  rcases vx_callVX X hx (C := C) (hh := hh) (bytes := bytes) (maxL := maxL) (ret := ret) ho hl hin hse hcode hy hK (by rw [hT]; exact hcB) hoB hclB hg (hsize.trans hml.symm) (argsL := As) (rest := rest) (fun sig h => hn.trans (hlen sig h)) hstack hW (by rw [hb]; exact hdg)
    (fun vm₁ hW₁ => ⟨hf.1, hf.2, hPc (T.setVm vm₁) hT hW₁⟩) with ⟨v, vm₁, ⟨U', l2, c2, s2⟩, hW₁, X', ⟨g', mk, t, L, e1, e2, hq, h1, hL, h2, h3⟩, st⟩ | ⟨q, vm₁, ⟨U', l2, c2, s2⟩, hW₁, X', ⟨g', mk, t, L, E, ce, e1, e2, hq, hce, hcv, hcl, h1, hL, h2, h3⟩, st⟩
  · dsimp only [Pt.U, Pt.locs, Pt.cells, Pt.slots] at X' e1 e2 h1 h2 h3 st
    subst h1; subst h2; subst h3
    exact Or.inl ⟨v, (T.setVm vm₁).calling g' mk (Value.ref b :: As).toArray, t, U', L, hT, X', hL, e1, e2, hq, st⟩
  · dsimp only [Pt.U, Pt.locs, Pt.cells, Pt.slots] at X' e1 e2 h1 h2 h3 st hcl
    subst h1; subst h2; subst h3
    exact Or.inr ⟨q, (T.setVm vm₁).calling g' mk (Value.ref b :: As).toArray, t, U', L, E, ce, hT, X', hL, e1, e2, hq, hce, hcv, vx_cls hW₁ hcl, st⟩
theorem vx_runSX {hh : List (Nat × Nat × Nat × Nat)} (S : CallFix p m c cc nL s args Ts own) (hM : vx_Met l y ws rm Pc Qc XC mc ms free) (cw : vx_CSW R s args own index y bytes maxL ret hh ws rm mc ms n) (hp : PreS s H Pc As)
    (hg : g.method = m) (hn : As.length = n) (hsize : g.locals.size = nL) (hstack : g.stack = As.reverse ++ rest) (hW : 2 * g.monitorRoom + (rest.map fun v => v.category).sum ≤ 8) (hdg : decode cc g.pc = .ok (.invokestatic index, 3)) (hf : cells + mc ≤ R.cells ∧ slots + ms ≤ R.slots) :
    vx_Run p l e R s m args below meth c H locs cells slots mc ms g rest (Qc As.toArray) XC free := by
  obtain ⟨⟨hrc, hrs, hfr, hlo, hws, hcw⟩, hcode, hini, hy, hlen, hl, hstt⟩ := cw
  have hK : vx_Back l R p e below s args y 3 8 (PreOf R mc ms Pc) (PostOf Qc mc ms free) (vx_Post XC mc ms free) := vx_backW (hh := hh) (bytes := bytes) (maxL := maxL) (ret := ret) hM hp.1 hrc hrs hfr hlo hws hcw (fun a' U hW => word_at hW (Or.inl (by first | rfl | simp [Cond.onTables, Cond.keeps, Cond.steady])) hini)
  obtain ⟨hx, hb, hml, ho, -⟩ := S
  intro T hT X
  rcases vx_callSX X hx (hh := hh) (bytes := bytes) (maxL := maxL) (ret := ret) ho hl hstt hini hcode hy hK hg (hsize.trans hml.symm) (argsL := As) (rest := rest) (fun sig h => hn.trans (hlen sig h)) hstack hW (by rw [hb]; exact hdg)
    (fun vm₁ hW₁ => ⟨hf.1, hf.2, hp.2 (T.setVm vm₁) hT hW₁⟩) with ⟨v, vm₁, ⟨U', l2, c2, s2⟩, hW₁, X', ⟨g', mk, t, L, e1, e2, hq, h1, hL, h2, h3⟩, st⟩ | ⟨q, vm₁, ⟨U', l2, c2, s2⟩, hW₁, X', ⟨g', mk, t, L, E, ce, e1, e2, hq, hce, hcv, hcl, h1, hL, h2, h3⟩, st⟩
  · dsimp only [Pt.U, Pt.locs, Pt.cells, Pt.slots] at X' e1 e2 h1 h2 h3 st
    subst h1; subst h2; subst h3
    exact Or.inl ⟨v, (T.setVm vm₁).calling g' mk As.toArray, t, U', L, hT, X', hL, e1, e2, hq, st⟩
  · dsimp only [Pt.U, Pt.locs, Pt.cells, Pt.slots] at X' e1 e2 h1 h2 h3 st hcl
    subst h1; subst h2; subst h3
    exact Or.inr ⟨q, (T.setVm vm₁).calling g' mk As.toArray, t, U', L, E, ce, hT, X', hL, e1, e2, hq, hce, hcv, vx_cls hW₁ hcl, st⟩
end
end VXH
theorem vx_ofWH {l : Launch} {y : MethodName} {ws ws' : List Cond} {rm : Room} {Pc : Array Value → State → Prop} {Qc : Array Value → State → Outcome → State → Prop} {XC : String → State → State → Prop} {mc ms : Nat} {free : Addr → Prop} {cc : ByteArray} {maxL : Nat} {ret : Option FieldType} {hh : List (Nat × Nat × Nat × Nat)}
    (hy : plainName y.cls = true) (hw : ws = Cond.codeWith y cc maxL ret hh :: ws')
    (body : ∀ p e s m args below meth c s₁, BodyLoose p l y (headSpec ws rm) cc maxL ret e s m args below meth c s₁ → c.maxLocals = maxL → Pc args s →
      W p l e (headSpec ws rm).room s m args below meth c s.heap [] 0 0 (vx_MQ below Qc XC args s mc ms free) (entryFrame m args maxL)) : vx_Met l y ws rm Pc Qc XC mc ms free := by
  refine MetFree.of_bodyS (code := cc) (maxLocals := maxL) (ret := ret) hy ?_ ?_
  · intro args s m h hn
    obtain ⟨m9, meth, c, hn9, h1, h2, h3, h4, -, h5, h6, -⟩ := Cond.codeWith_spec (atoms_spec (ws := ws) h _ (by rw [hw]; exact List.mem_cons_self))
    cases hn.symm.trans hn9
    exact ⟨meth, c, h1, h2, h3, h4, h5, h6⟩
  · intro p e s m args below meth c s₁ B hml hP _
    have hh0 : s₁.heap = s.heap := by rw [B.state]; rfl
    obtain ⟨t, a1, o, b1, b2, b3⟩ := body p e s m args below meth c s₁ B hml hP s₁ hh0 (Stand.of_body B)
    exact ⟨t, o, a1, b1, b2, b3⟩
/-! ===== END ===== -/
end
section
/-! ===== BEGIN printed: names, fields, word lists, decode rows ===== -/
def RX0 : String := "EntryMasters$Classes"
def TX0 : u_T := fun k => match k with
  | 0 => ("EntryMasters$Classes", "needed", "[I", true)
  | _ => ("EntryMasters$Classes", "allowed", "[I", true)
def tyX0 : Nat → FieldType := fun k => match k with
  | 0 => .array .int
  | _ => .array .int
abbrev wsX00 : List Cond := u_ws RX0 TX0 2
theorem nmX0 : ∀ a, a < 2 → ∀ b, b < 2 → a ≠ b → (TX0 a).2.1 ≠ (TX0 b).2.1 := by decide +kernel
theorem tyX0_ok : ∀ k, k < 2 → parseFieldDescriptor (TX0 k).2.2.1 = some (tyX0 k) := by decide +kernel
abbrev cX0_init : ByteArray := prog_2_method_1_code
def yX0_init : MethodName := ⟨RX0, "<init>", "()V"⟩
abbrev cX0_define : ByteArray := prog_2_method_2_code
def yX0_define : MethodName := ⟨RX0, "define", "(III)V"⟩
abbrev cX0_needs : ByteArray := prog_2_method_3_code
def yX0_needs : MethodName := ⟨RX0, "needs", "(II)Z"⟩
abbrev cX0_allows : ByteArray := prog_2_method_4_code
def yX0_allows : MethodName := ⟨RX0, "allows", "(II)Z"⟩
abbrev cX0_hasBit : ByteArray := prog_2_method_5_code
def yX0_hasBit : MethodName := ⟨RX0, "hasBit", "(II)Z"⟩
def RX1 : String := "EntryMasters$Filters"
def TX1 : u_T := fun k => match k with
  | 0 => ("EntryMasters$Filters", "kinds", "[I", true)
  | 1 => ("EntryMasters$Filters", "firsts", "[I", true)
  | 2 => ("EntryMasters$Filters", "seconds", "[I", true)
  | 3 => ("EntryMasters$Filters", "truths", "[I", true)
  | _ => ("EntryMasters$Filters", "count", "I", false)
def tyX1 : Nat → FieldType := fun k => match k with
  | 0 => .array .int
  | 1 => .array .int
  | 2 => .array .int
  | 3 => .array .int
  | _ => .int
abbrev wsX10 : List Cond := u_ws RX1 TX1 5
theorem nmX1 : ∀ a, a < 5 → ∀ b, b < 5 → a ≠ b → (TX1 a).2.1 ≠ (TX1 b).2.1 := by decide +kernel
theorem tyX1_ok : ∀ k, k < 5 → parseFieldDescriptor (TX1 k).2.2.1 = some (tyX1 k) := by decide +kernel
abbrev cX1_init : ByteArray := prog_3_method_1_code
def yX1_init : MethodName := ⟨RX1, "<init>", "()V"⟩
abbrev cX1_append : ByteArray := prog_3_method_2_code
def yX1_append : MethodName := ⟨RX1, "append", "(III)I"⟩
abbrev cX1_truthFor : ByteArray := prog_3_method_3_code
def yX1_truthFor : MethodName := ⟨RX1, "truthFor", "(ILEntryMasters$Tree;I)I"⟩
abbrev cX1_truthOfTest : ByteArray := prog_3_method_4_code
def yX1_truthOfTest : MethodName := ⟨RX1, "truthOfTest", "(IIILEntryMasters$Tree;I)I"⟩
abbrev cX1_truthOfJoin : ByteArray := prog_3_method_5_code
def yX1_truthOfJoin : MethodName := ⟨RX1, "truthOfJoin", "(III)I"⟩
abbrev cX1_both : ByteArray := prog_3_method_6_code
def yX1_both : MethodName := ⟨RX1, "both", "(II)I"⟩
abbrev cX1_opposite : ByteArray := prog_3_method_7_code
def yX1_opposite : MethodName := ⟨RX1, "opposite", "(I)I"⟩
def RX2 : String := "EntryMasters$Log"
def TX2 : u_T := fun k => match k with
  | 0 => ("EntryMasters$Log", "kinds", "[I", true)
  | 1 => ("EntryMasters$Log", "stamps", "[I", true)
  | 2 => ("EntryMasters$Log", "entries", "[I", true)
  | 3 => ("EntryMasters$Log", "targets", "[I", true)
  | 4 => ("EntryMasters$Log", "contents", "[I", true)
  | 5 => ("EntryMasters$Log", "classesOfAdded", "[I", true)
  | _ => ("EntryMasters$Log", "count", "I", false)
def tyX2 : Nat → FieldType := fun k => match k with
  | 0 => .array .int
  | 1 => .array .int
  | 2 => .array .int
  | 3 => .array .int
  | 4 => .array .int
  | 5 => .array .int
  | _ => .int
abbrev wsX20 : List Cond := u_ws RX2 TX2 7
theorem nmX2 : ∀ a, a < 7 → ∀ b, b < 7 → a ≠ b → (TX2 a).2.1 ≠ (TX2 b).2.1 := by decide +kernel
theorem tyX2_ok : ∀ k, k < 7 → parseFieldDescriptor (TX2 k).2.2.1 = some (tyX2 k) := by decide +kernel
abbrev cX2_init : ByteArray := prog_4_method_1_code
def yX2_init : MethodName := ⟨RX2, "<init>", "()V"⟩
abbrev cX2_append : ByteArray := prog_4_method_2_code
def yX2_append : MethodName := ⟨RX2, "append", "(IIIIII)I"⟩
abbrev cX2_stampFrom : ByteArray := prog_4_method_3_code
def yX2_stampFrom : MethodName := ⟨RX2, "stampFrom", "(II)I"⟩
abbrev cX2_stampAt : ByteArray := prog_4_method_4_code
def yX2_stampAt : MethodName := ⟨RX2, "stampAt", "(I)I"⟩
abbrev cX2_timeAt : ByteArray := prog_4_method_5_code
def yX2_timeAt : MethodName := ⟨RX2, "timeAt", "(I)I"⟩
def RX3 : String := "EntryMasters$Marks"
def TX3 : u_T := fun k => match k with
  | 0 => ("EntryMasters$Marks", "rights", "[I", true)
  | _ => ("EntryMasters$Marks", "referrals", "[Z", true)
def tyX3 : Nat → FieldType := fun k => match k with
  | 0 => .array .int
  | _ => .array .boolean
abbrev wsX30 : List Cond := u_ws RX3 TX3 2
theorem nmX3 : ∀ a, a < 2 → ∀ b, b < 2 → a ≠ b → (TX3 a).2.1 ≠ (TX3 b).2.1 := by decide +kernel
theorem tyX3_ok : ∀ k, k < 2 → parseFieldDescriptor (TX3 k).2.2.1 = some (tyX3 k) := by decide +kernel
abbrev cX3_init : ByteArray := prog_5_method_1_code
def yX3_init : MethodName := ⟨RX3, "<init>", "()V"⟩
abbrev cX3_putRight : ByteArray := prog_5_method_2_code
def yX3_putRight : MethodName := ⟨RX3, "putRight", "(III)V"⟩
abbrev cX3_putReferral : ByteArray := prog_5_method_3_code
def yX3_putReferral : MethodName := ⟨RX3, "putReferral", "(IZ)V"⟩
abbrev cX3_isReferral : ByteArray := prog_5_method_4_code
def yX3_isReferral : MethodName := ⟨RX3, "isReferral", "(I)Z"⟩
abbrev cX3_rightThatCounts : ByteArray := prog_5_method_5_code
def yX3_rightThatCounts : MethodName := ⟨RX3, "rightThatCounts", "(ILEntryMasters$Tree;I)I"⟩
def RX4 : String := "EntryMasters$Tree"
def TX4 : u_T := fun k => match k with
  | 0 => ("EntryMasters$Tree", "master", "I", true)
  | 1 => ("EntryMasters$Tree", "log", "LEntryMasters$Log;", true)
  | 2 => ("EntryMasters$Tree", "classes", "LEntryMasters$Classes;", true)
  | 3 => ("EntryMasters$Tree", "known", "[I", true)
  | 4 => ("EntryMasters$Tree", "knownCount", "I", false)
  | 5 => ("EntryMasters$Tree", "there", "[Z", true)
  | 6 => ("EntryMasters$Tree", "parents", "[I", true)
  | 7 => ("EntryMasters$Tree", "labels", "[I", true)
  | 8 => ("EntryMasters$Tree", "classesOfEntries", "[I", true)
  | 9 => ("EntryMasters$Tree", "values", "[I", true)
  | _ => ("EntryMasters$Tree", "size", "I", false)
def tyX4 : Nat → FieldType := fun k => match k with
  | 0 => .int
  | 1 => .object "EntryMasters$Log"
  | 2 => .object "EntryMasters$Classes"
  | 3 => .array .int
  | 4 => .int
  | 5 => .array .boolean
  | 6 => .array .int
  | 7 => .array .int
  | 8 => .array .int
  | 9 => .array .int
  | _ => .int
abbrev wsX40 : List Cond := u_ws RX4 TX4 11
theorem nmX4 : ∀ a, a < 11 → ∀ b, b < 11 → a ≠ b → (TX4 a).2.1 ≠ (TX4 b).2.1 := by decide +kernel
theorem tyX4_ok : ∀ k, k < 11 → parseFieldDescriptor (TX4 k).2.2.1 = some (tyX4 k) := by decide +kernel
abbrev cX4_init : ByteArray := prog_6_method_1_code
def yX4_init : MethodName := ⟨RX4, "<init>", "(ILEntryMasters$Log;LEntryMasters$Classes;)V"⟩
abbrev cX4_clear : ByteArray := prog_6_method_2_code
def yX4_clear : MethodName := ⟨RX4, "clear", "()V"⟩
abbrev cX4_knows : ByteArray := prog_6_method_3_code
def yX4_knows : MethodName := ⟨RX4, "knows", "(I)Z"⟩
abbrev cX4_stampOfNext : ByteArray := prog_6_method_4_code
def yX4_stampOfNext : MethodName := ⟨RX4, "stampOfNext", "()I"⟩
abbrev cX4_learn : ByteArray := prog_6_method_5_code
def yX4_learn : MethodName := ⟨RX4, "learn", "(I)V"⟩
abbrev cX4_putInOrder : ByteArray := prog_6_method_6_code
def yX4_putInOrder : MethodName := ⟨RX4, "putInOrder", "(I)I"⟩
abbrev cX4_perform : ByteArray := prog_6_method_7_code
def yX4_perform : MethodName := ⟨RX4, "perform", "(I)V"⟩
abbrev cX4_performAdding : ByteArray := prog_6_method_8_code
def yX4_performAdding : MethodName := ⟨RX4, "performAdding", "(IIII)V"⟩
abbrev cX4_performSetting : ByteArray := prog_6_method_9_code
def yX4_performSetting : MethodName := ⟨RX4, "performSetting", "(III)V"⟩
abbrev cX4_performMoving : ByteArray := prog_6_method_10_code
def yX4_performMoving : MethodName := ⟨RX4, "performMoving", "(III)V"⟩
abbrev cX4_performDeleting : ByteArray := prog_6_method_11_code
def yX4_performDeleting : MethodName := ⟨RX4, "performDeleting", "(I)V"⟩
abbrev cX4_settle : ByteArray := prog_6_method_12_code
def yX4_settle : MethodName := ⟨RX4, "settle", "(II)V"⟩
abbrev cX4_has : ByteArray := prog_6_method_13_code
def yX4_has : MethodName := ⟨RX4, "has", "(I)Z"⟩
abbrev cX4_parentAt : ByteArray := prog_6_method_14_code
def yX4_parentAt : MethodName := ⟨RX4, "parentAt", "(I)I"⟩
abbrev cX4_labelAt : ByteArray := prog_6_method_15_code
def yX4_labelAt : MethodName := ⟨RX4, "labelAt", "(I)I"⟩
abbrev cX4_valueAt : ByteArray := prog_6_method_16_code
def yX4_valueAt : MethodName := ⟨RX4, "valueAt", "(II)I"⟩
abbrev cX4_mayHold : ByteArray := prog_6_method_17_code
def yX4_mayHold : MethodName := ⟨RX4, "mayHold", "(II)Z"⟩
abbrev cX4_hasAllNeeded : ByteArray := prog_6_method_18_code
def yX4_hasAllNeeded : MethodName := ⟨RX4, "hasAllNeeded", "(I)Z"⟩
abbrev cX4_isAtOrBelow : ByteArray := prog_6_method_19_code
def yX4_isAtOrBelow : MethodName := ⟨RX4, "isAtOrBelow", "(II)Z"⟩
abbrev cX4_hasChild : ByteArray := prog_6_method_20_code
def yX4_hasChild : MethodName := ⟨RX4, "hasChild", "(I)Z"⟩
abbrev cX4_childWithLabelLike : ByteArray := prog_6_method_21_code
def yX4_childWithLabelLike : MethodName := ⟨RX4, "childWithLabelLike", "(III)I"⟩
abbrev cX4_areLike : ByteArray := prog_6_method_22_code
def yX4_areLike : MethodName := ⟨RX4, "areLike", "(II)Z"⟩
abbrev cX4_isSameAs : ByteArray := prog_6_method_23_code
def yX4_isSameAs : MethodName := ⟨RX4, "isSameAs", "(LEntryMasters$Tree;)Z"⟩
abbrev cX4_hasSameEntry : ByteArray := prog_6_method_24_code
def yX4_hasSameEntry : MethodName := ⟨RX4, "hasSameEntry", "(LEntryMasters$Tree;I)Z"⟩
abbrev cX4_orderUnderParent : ByteArray := prog_6_method_25_code
def yX4_orderUnderParent : MethodName := ⟨RX4, "orderUnderParent", "(I)I"⟩
abbrev cX4_childAfter : ByteArray := prog_6_method_26_code
def yX4_childAfter : MethodName := ⟨RX4, "childAfter", "(IILEntryMasters$Marks;)I"⟩
abbrev cX4_entryAfter : ByteArray := prog_6_method_27_code
def yX4_entryAfter : MethodName := ⟨RX4, "entryAfter", "(IILEntryMasters$Marks;)I"⟩
def RX5 : String := "EntryMasters"
def TX5 : u_T := fun k => match k with
  | 0 => ("EntryMasters", "classes", "LEntryMasters$Classes;", true)
  | 1 => ("EntryMasters", "log", "LEntryMasters$Log;", true)
  | 2 => ("EntryMasters", "firstTree", "LEntryMasters$Tree;", true)
  | 3 => ("EntryMasters", "secondTree", "LEntryMasters$Tree;", true)
  | 4 => ("EntryMasters", "marks", "LEntryMasters$Marks;", true)
  | _ => ("EntryMasters", "filters", "LEntryMasters$Filters;", true)
def tyX5 : Nat → FieldType := fun k => match k with
  | 0 => .object "EntryMasters$Classes"
  | 1 => .object "EntryMasters$Log"
  | 2 => .object "EntryMasters$Tree"
  | 3 => .object "EntryMasters$Tree"
  | 4 => .object "EntryMasters$Marks"
  | _ => .object "EntryMasters$Filters"
abbrev wsX50 : List Cond := u_ws RX5 TX5 6
theorem nmX5 : ∀ a, a < 6 → ∀ b, b < 6 → a ≠ b → (TX5 a).2.1 ≠ (TX5 b).2.1 := by decide +kernel
theorem tyX5_ok : ∀ k, k < 6 → parseFieldDescriptor (TX5 k).2.2.1 = some (tyX5 k) := by decide +kernel
abbrev cX5_init : ByteArray := prog_1_method_1_code
def yX5_init : MethodName := ⟨RX5, "<init>", "()V"⟩
abbrev cX5_setClass : ByteArray := prog_1_method_2_code
def yX5_setClass : MethodName := ⟨RX5, "setClass", "(III)V"⟩
abbrev cX5_add : ByteArray := prog_1_method_3_code
def yX5_add : MethodName := ⟨RX5, "add", "(IIII)I"⟩
abbrev cX5_set : ByteArray := prog_1_method_4_code
def yX5_set : MethodName := ⟨RX5, "set", "(IIII)I"⟩
abbrev cX5_move : ByteArray := prog_1_method_5_code
def yX5_move : MethodName := ⟨RX5, "move", "(IIII)I"⟩
abbrev cX5_delete : ByteArray := prog_1_method_6_code
def yX5_delete : MethodName := ⟨RX5, "delete", "(II)I"⟩
abbrev cX5_carry : ByteArray := prog_1_method_7_code
def yX5_carry : MethodName := ⟨RX5, "carry", "(II)Z"⟩
abbrev cX5_changes : ByteArray := prog_1_method_8_code
def yX5_changes : MethodName := ⟨RX5, "changes", "()I"⟩
abbrev cX5_timeOf : ByteArray := prog_1_method_9_code
def yX5_timeOf : MethodName := ⟨RX5, "timeOf", "(I)I"⟩
abbrev cX5_entries : ByteArray := prog_1_method_10_code
def yX5_entries : MethodName := ⟨RX5, "entries", "(I)I"⟩
abbrev cX5_isThere : ByteArray := prog_1_method_11_code
def yX5_isThere : MethodName := ⟨RX5, "isThere", "(II)Z"⟩
abbrev cX5_parentOf : ByteArray := prog_1_method_12_code
def yX5_parentOf : MethodName := ⟨RX5, "parentOf", "(II)I"⟩
abbrev cX5_labelOf : ByteArray := prog_1_method_13_code
def yX5_labelOf : MethodName := ⟨RX5, "labelOf", "(II)I"⟩
abbrev cX5_value : ByteArray := prog_1_method_14_code
def yX5_value : MethodName := ⟨RX5, "value", "(III)I"⟩
abbrev cX5_isWhole : ByteArray := prog_1_method_15_code
def yX5_isWhole : MethodName := ⟨RX5, "isWhole", "(II)Z"⟩
abbrev cX5_find : ByteArray := prog_1_method_16_code
def yX5_find : MethodName := ⟨RX5, "find", "(III)I"⟩
abbrev cX5_areAlike : ByteArray := prog_1_method_17_code
def yX5_areAlike : MethodName := ⟨RX5, "areAlike", "()Z"⟩
abbrev cX5_setRight : ByteArray := prog_1_method_18_code
def yX5_setRight : MethodName := ⟨RX5, "setRight", "(III)V"⟩
abbrev cX5_refer : ByteArray := prog_1_method_19_code
def yX5_refer : MethodName := ⟨RX5, "refer", "(IZ)V"⟩
abbrev cX5_test : ByteArray := prog_1_method_20_code
def yX5_test : MethodName := ⟨RX5, "test", "(III)I"⟩
abbrev cX5_join : ByteArray := prog_1_method_21_code
def yX5_join : MethodName := ⟨RX5, "join", "(III)I"⟩
abbrev cX5_holds : ByteArray := prog_1_method_22_code
def yX5_holds : MethodName := ⟨RX5, "holds", "(III)I"⟩
abbrev cX5_search : ByteArray := prog_1_method_23_code
def yX5_search : MethodName := ⟨RX5, "search", "(IIIIII)I"⟩
abbrev cX5_isFound : ByteArray := prog_1_method_24_code
def yX5_isFound : MethodName := ⟨RX5, "isFound", "(LEntryMasters$Tree;III)Z"⟩
abbrev cX5_nextInScope : ByteArray := prog_1_method_25_code
def yX5_nextInScope : MethodName := ⟨RX5, "nextInScope", "(LEntryMasters$Tree;III)I"⟩
abbrev cX5_treeOf : ByteArray := prog_1_method_26_code
def yX5_treeOf : MethodName := ⟨RX5, "treeOf", "(I)LEntryMasters$Tree;"⟩
abbrev cX5_checkIndex : ByteArray := prog_1_method_27_code
def yX5_checkIndex : MethodName := ⟨RX5, "checkIndex", "(II)V"⟩
abbrev cX5_checkEntry : ByteArray := prog_1_method_28_code
def yX5_checkEntry : MethodName := ⟨RX5, "checkEntry", "(LEntryMasters$Tree;I)V"⟩
abbrev cX5_checkArgument : ByteArray := prog_1_method_29_code
def yX5_checkArgument : MethodName := ⟨RX5, "checkArgument", "(III)V"⟩
abbrev cX5_checkRoomForChange : ByteArray := prog_1_method_30_code
def yX5_checkRoomForChange : MethodName := ⟨RX5, "checkRoomForChange", "()V"⟩
abbrev cX5_checkRoomForFilter : ByteArray := prog_1_method_31_code
def yX5_checkRoomForFilter : MethodName := ⟨RX5, "checkRoomForFilter", "()V"⟩
abbrev cX5_checkIsNotFixed : ByteArray := prog_1_method_32_code
def yX5_checkIsNotFixed : MethodName := ⟨RX5, "checkIsNotFixed", "(I)V"⟩
abbrev cX5_checkLabelIsFree : ByteArray := prog_1_method_33_code
def yX5_checkLabelIsFree : MethodName := ⟨RX5, "checkLabelIsFree", "(LEntryMasters$Tree;III)V"⟩
abbrev cX5_at : ByteArray := prog_1_method_34_code
def yX5_at : MethodName := ⟨RX5, "at", "([II)I"⟩
abbrev cX5_put : ByteArray := prog_1_method_35_code
def yX5_put : MethodName := ⟨RX5, "put", "([III)V"⟩
def RX6 : String := "EntryMastersModel"
def TX6 : u_T := fun k => match k with
  | _ => ("", "", "", false)
def tyX6 : Nat → FieldType := fun k => match k with
  | _ => .int
abbrev wsX60 : List Cond := u_ws RX6 TX6 0
theorem nmX6 : ∀ a, a < 0 → ∀ b, b < 0 → a ≠ b → (TX6 a).2.1 ≠ (TX6 b).2.1 := by decide +kernel
theorem tyX6_ok : ∀ k, k < 0 → parseFieldDescriptor (TX6 k).2.2.1 = some (tyX6 k) := by decide +kernel
def RJx145de : String := "java/io/Serializable"
def TJx145de : u_T := fun k => match k with
  | _ => ("", "", "", false)
def tyJx145de : Nat → FieldType := fun k => match k with
  | _ => .int
abbrev wsJx145de0 : List Cond := u_ws RJx145de TJx145de 0
theorem nmJx145de : ∀ a, a < 0 → ∀ b, b < 0 → a ≠ b → (TJx145de a).2.1 ≠ (TJx145de b).2.1 := by decide +kernel
theorem tyJx145de_ok : ∀ k, k < 0 → parseFieldDescriptor (TJx145de k).2.2.1 = some (tyJx145de k) := by decide +kernel
def RJ0 : String := "java/lang/String"
def TJ0 : u_T := fun k => match k with
  | _ => ("", "", "", false)
def tyJ0 : Nat → FieldType := fun k => match k with
  | _ => .int
abbrev wsJ00 : List Cond := u_ws RJ0 TJ0 0
theorem nmJ0 : ∀ a, a < 0 → ∀ b, b < 0 → a ≠ b → (TJ0 a).2.1 ≠ (TJ0 b).2.1 := by decide +kernel
theorem tyJ0_ok : ∀ k, k < 0 → parseFieldDescriptor (TJ0 k).2.2.1 = some (tyJ0 k) := by decide +kernel
def RJ7 : String := "java/util/Arrays"
def TJ7 : u_T := fun k => match k with
  | _ => ("", "", "", false)
def tyJ7 : Nat → FieldType := fun k => match k with
  | _ => .int
abbrev wsJ70 : List Cond := u_ws RJ7 TJ7 0
theorem nmJ7 : ∀ a, a < 0 → ∀ b, b < 0 → a ≠ b → (TJ7 a).2.1 ≠ (TJ7 b).2.1 := by decide +kernel
theorem tyJ7_ok : ∀ k, k < 0 → parseFieldDescriptor (TJ7 k).2.2.1 = some (tyJ7 k) := by decide +kernel
abbrev cJ7_fill_53178 : ByteArray := prog_16_method_103_code
def yJ7_fill_53178 : MethodName := ⟨RJ7, "fill", "([II)V"⟩
def RL : String := "EntryMastersLaw"
abbrev cL_kind : ByteArray := method_2_code
def yL_kind : MethodName := ⟨RL, "kind", "(LEntryMasters;III)I"⟩
abbrev cL_right : ByteArray := method_3_code
def yL_right : MethodName := ⟨RL, "right", "(LEntryMasters;III)I"⟩
abbrev cL_refer : ByteArray := method_4_code
def yL_refer : MethodName := ⟨RL, "refer", "(LEntryMasters;IZ)I"⟩
abbrev cL_act : ByteArray := method_5_code
def yL_act : MethodName := ⟨RL, "act", "(LEntryMasters;IIIII)I"⟩
abbrev cL_search : ByteArray := method_6_code
def yL_search : MethodName := ⟨RL, "search", "(LEntryMasters;IIIIII)I"⟩
abbrev cL_refuses : ByteArray := method_7_code
def yL_refuses : MethodName := ⟨RL, "refuses", "(LEntryMasters;II)Z"⟩
abbrev cL_at : ByteArray := method_8_code
def yL_at : MethodName := ⟨RL, "at", "(LEntryMasters;IIII)Z"⟩
abbrev cL_masters : ByteArray := method_9_code
def yL_masters : MethodName := ⟨RL, "masters", "()Z"⟩
abbrev cL_finds : ByteArray := method_10_code
def yL_finds : MethodName := ⟨RL, "finds", "(LEntryMasters;IIIIIIII)Z"⟩
abbrev cL_searches : ByteArray := method_11_code
def yL_searches : MethodName := ⟨RL, "searches", "()Z"⟩
abbrev cL_law : ByteArray := code
def yL_law : MethodName := ⟨RL, "law", "([I)Z"⟩
def wsJ7_fill_53178 : List Cond := .code yJ7_fill_53178 cJ7_fill_53178 4 none :: ([])
def wsX0_init : List Cond := .code yX0_init cX0_init 1 none :: ([.methodLink RX0 3 objectInit, .instanceMethod objectInit, .code objectInit ⟨#[0xb1]⟩ 1 none, .arrayClass .int, .fieldLink RX0 9 "EntryMasters$Classes" "needed" "[I", .fieldLink RX0 15 "EntryMasters$Classes" "allowed" "[I", .methodLink RX0 18 yJ7_fill_53178, .static yJ7_fill_53178, .initialized RJ7, .code yJ7_fill_53178 cJ7_fill_53178 4 none] ++ wsX00)
def wsX5_put : List Cond := .code yX5_put cX5_put 3 none :: ([])
def wsX0_define : List Cond := .code yX0_define cX0_define 4 none :: ([.fieldLink RX0 9 "EntryMasters$Classes" "needed" "[I", .fieldLink RX0 15 "EntryMasters$Classes" "allowed" "[I", .static yX5_put, .initialized RX5, .code yX5_put cX5_put 3 none] ++ wsX00)
def wsX0_hasBit : List Cond := .code yX0_hasBit cX0_hasBit 2 (some .boolean) :: ([])
def wsX0_needs : List Cond := .code yX0_needs cX0_needs 3 (some .boolean) :: ([.fieldLink RX0 9 "EntryMasters$Classes" "needed" "[I", .methodLink RX0 28 yX0_hasBit, .static yX0_hasBit, .initialized RX0, .code yX0_hasBit cX0_hasBit 2 (some .boolean)] ++ wsX00)
def wsX0_allows : List Cond := .code yX0_allows cX0_allows 3 (some .boolean) :: ([.fieldLink RX0 15 "EntryMasters$Classes" "allowed" "[I", .methodLink RX0 28 yX0_hasBit, .static yX0_hasBit, .initialized RX0, .code yX0_hasBit cX0_hasBit 2 (some .boolean)] ++ wsX00)
def wsX1_init : List Cond := .code yX1_init cX1_init 1 none :: ([.methodLink RX1 3 objectInit, .instanceMethod objectInit, .code objectInit ⟨#[0xb1]⟩ 1 none, .arrayClass .int, .fieldLink RX1 9 "EntryMasters$Filters" "kinds" "[I", .fieldLink RX1 15 "EntryMasters$Filters" "firsts" "[I", .fieldLink RX1 18 "EntryMasters$Filters" "seconds" "[I", .fieldLink RX1 21 "EntryMasters$Filters" "truths" "[I"] ++ wsX10)
def wsX1_append : List Cond := .code yX1_append cX1_append 5 (some .int) :: ([.fieldLink RX1 24 "EntryMasters$Filters" "count" "I", .fieldLink RX1 9 "EntryMasters$Filters" "kinds" "[I", .fieldLink RX1 15 "EntryMasters$Filters" "firsts" "[I", .fieldLink RX1 18 "EntryMasters$Filters" "seconds" "[I", .static yX5_put, .initialized RX5, .code yX5_put cX5_put 3 none] ++ wsX10)
def wsX5_at : List Cond := .code yX5_at cX5_at 2 (some .int) :: ([])
def wsX4_mayHold : List Cond := .code yX4_mayHold cX4_mayHold 3 (some .boolean) :: ([.fieldLink RX4 39 "EntryMasters$Tree" "classes" "LEntryMasters$Classes;", .fieldLink RX4 25 "EntryMasters$Tree" "classesOfEntries" "[I", .static yX5_at, .initialized RX5, .code yX5_at cX5_at 2 (some .int), .methodLink RX4 134 yX0_allows, .instanceMethod yX0_allows, .selects RX0 yX0_allows yX0_allows, .initialized RX0, .code yX0_allows cX0_allows 3 (some .boolean), .fieldLink RX0 15 "EntryMasters$Classes" "allowed" "[I", .methodLink RX0 28 yX0_hasBit, .static yX0_hasBit, .code yX0_hasBit cX0_hasBit 2 (some .boolean)] ++ wsX40 ++ wsX00)
def wsX4_valueAt : List Cond := .code yX4_valueAt cX4_valueAt 3 (some .int) :: ([.fieldLink RX4 28 "EntryMasters$Tree" "values" "[I", .static yX5_at, .initialized RX5, .code yX5_at cX5_at 2 (some .int)] ++ wsX40)
def wsX1_truthOfTest : List Cond := .code yX1_truthOfTest cX1_truthOfTest 6 (some .int) :: ([.methodLink RX1 44 yX4_mayHold, .instanceMethod yX4_mayHold, .selects RX4 yX4_mayHold yX4_mayHold, .initialized RX4, .code yX4_mayHold cX4_mayHold 3 (some .boolean), .fieldLink RX4 39 "EntryMasters$Tree" "classes" "LEntryMasters$Classes;", .fieldLink RX4 25 "EntryMasters$Tree" "classesOfEntries" "[I", .static yX5_at, .initialized RX5, .code yX5_at cX5_at 2 (some .int), .methodLink RX4 134 yX0_allows, .instanceMethod yX0_allows, .selects RX0 yX0_allows yX0_allows, .initialized RX0, .code yX0_allows cX0_allows 3 (some .boolean), .fieldLink RX0 15 "EntryMasters$Classes" "allowed" "[I", .methodLink RX0 28 yX0_hasBit, .static yX0_hasBit, .code yX0_hasBit cX0_hasBit 2 (some .boolean), .methodLink RX1 50 yX4_valueAt, .instanceMethod yX4_valueAt, .selects RX4 yX4_valueAt yX4_valueAt, .code yX4_valueAt cX4_valueAt 3 (some .int), .fieldLink RX4 28 "EntryMasters$Tree" "values" "[I"] ++ wsX40 ++ wsX00)
def wsX1_both : List Cond := .code yX1_both cX1_both 2 (some .int) :: ([])
def wsX1_opposite : List Cond := .code yX1_opposite cX1_opposite 1 (some .int) :: ([])
def wsX1_truthOfJoin : List Cond := .code yX1_truthOfJoin cX1_truthOfJoin 3 (some .int) :: ([.methodLink RX1 54 yX1_both, .static yX1_both, .initialized RX1, .code yX1_both cX1_both 2 (some .int), .methodLink RX1 57 yX1_opposite, .static yX1_opposite, .code yX1_opposite cX1_opposite 1 (some .int)])
def wsX1_truthFor_r1 : List Cond := [Cond.fieldLink RX1 9 "EntryMasters$Filters" "kinds" "[I", Cond.fieldLink RX1 15 "EntryMasters$Filters" "firsts" "[I", Cond.fieldLink RX1 18 "EntryMasters$Filters" "seconds" "[I", Cond.fieldLink RX1 21 "EntryMasters$Filters" "truths" "[I", Cond.methodLink RX1 32 yX1_truthOfTest, Cond.static yX1_truthOfTest, Cond.initialized RX1, Cond.code yX1_truthOfTest cX1_truthOfTest 6 (some .int), Cond.methodLink RX1 44 yX4_mayHold, Cond.instanceMethod yX4_mayHold, Cond.selects RX4 yX4_mayHold yX4_mayHold, Cond.initialized RX4, Cond.code yX4_mayHold cX4_mayHold 3 (some .boolean), Cond.fieldLink RX4 39 "EntryMasters$Tree" "classes" "LEntryMasters$Classes;", Cond.fieldLink RX4 25 "EntryMasters$Tree" "classesOfEntries" "[I", Cond.static yX5_at, Cond.initialized RX5, Cond.code yX5_at cX5_at 2 (some .int), Cond.methodLink RX4 134 yX0_allows, Cond.instanceMethod yX0_allows, Cond.selects RX0 yX0_allows yX0_allows, Cond.initialized RX0, Cond.code yX0_allows cX0_allows 3 (some .boolean), Cond.fieldLink RX0 15 "EntryMasters$Classes" "allowed" "[I"]
def wsX1_truthFor_r2 : List Cond := [Cond.methodLink RX0 28 yX0_hasBit, Cond.static yX0_hasBit, Cond.code yX0_hasBit cX0_hasBit 2 (some .boolean), Cond.methodLink RX1 50 yX4_valueAt, Cond.instanceMethod yX4_valueAt, Cond.selects RX4 yX4_valueAt yX4_valueAt, Cond.code yX4_valueAt cX4_valueAt 3 (some .int), Cond.fieldLink RX4 28 "EntryMasters$Tree" "values" "[I", Cond.methodLink RX1 40 yX1_truthOfJoin, Cond.static yX1_truthOfJoin, Cond.code yX1_truthOfJoin cX1_truthOfJoin 3 (some .int), Cond.methodLink RX1 54 yX1_both, Cond.static yX1_both, Cond.code yX1_both cX1_both 2 (some .int), Cond.methodLink RX1 57 yX1_opposite, Cond.static yX1_opposite, Cond.code yX1_opposite cX1_opposite 1 (some .int)]
def wsX1_truthFor : List Cond := .code yX1_truthFor cX1_truthFor 8 (some .int) :: ((wsX1_truthFor_r1 ++ wsX1_truthFor_r2) ++ wsX10 ++ wsX40 ++ wsX00)
def wsX2_init : List Cond := .code yX2_init cX2_init 1 none :: ([.methodLink RX2 3 objectInit, .instanceMethod objectInit, .code objectInit ⟨#[0xb1]⟩ 1 none, .arrayClass .int, .fieldLink RX2 9 "EntryMasters$Log" "kinds" "[I", .fieldLink RX2 15 "EntryMasters$Log" "stamps" "[I", .fieldLink RX2 18 "EntryMasters$Log" "entries" "[I", .fieldLink RX2 21 "EntryMasters$Log" "targets" "[I", .fieldLink RX2 24 "EntryMasters$Log" "contents" "[I", .fieldLink RX2 27 "EntryMasters$Log" "classesOfAdded" "[I"] ++ wsX20)
def wsX2_append : List Cond := .code yX2_append cX2_append 8 (some .int) :: ([.fieldLink RX2 30 "EntryMasters$Log" "count" "I", .fieldLink RX2 9 "EntryMasters$Log" "kinds" "[I", .fieldLink RX2 15 "EntryMasters$Log" "stamps" "[I", .fieldLink RX2 18 "EntryMasters$Log" "entries" "[I", .fieldLink RX2 21 "EntryMasters$Log" "targets" "[I", .fieldLink RX2 24 "EntryMasters$Log" "contents" "[I", .fieldLink RX2 27 "EntryMasters$Log" "classesOfAdded" "[I", .static yX5_put, .initialized RX5, .code yX5_put cX5_put 3 none] ++ wsX20)
def wsX2_stampFrom : List Cond := .code yX2_stampFrom cX2_stampFrom 2 (some .int) :: ([])
def wsX2_stampAt : List Cond := .code yX2_stampAt cX2_stampAt 2 (some .int) :: ([.fieldLink RX2 15 "EntryMasters$Log" "stamps" "[I", .static yX5_at, .initialized RX5, .code yX5_at cX5_at 2 (some .int)] ++ wsX20)
def wsX2_timeAt : List Cond := .code yX2_timeAt cX2_timeAt 2 (some .int) :: ([.fieldLink RX2 15 "EntryMasters$Log" "stamps" "[I", .static yX5_at, .initialized RX5, .code yX5_at cX5_at 2 (some .int)] ++ wsX20)
def wsX3_init : List Cond := .code yX3_init cX3_init 1 none :: ([.methodLink RX3 3 objectInit, .instanceMethod objectInit, .code objectInit ⟨#[0xb1]⟩ 1 none, .arrayClass .int, .fieldLink RX3 9 "EntryMasters$Marks" "rights" "[I", .arrayClass .boolean, .fieldLink RX3 15 "EntryMasters$Marks" "referrals" "[Z", .methodLink RX3 19 yJ7_fill_53178, .static yJ7_fill_53178, .initialized RJ7, .code yJ7_fill_53178 cJ7_fill_53178 4 none] ++ wsX30)
def wsX3_putRight : List Cond := .code yX3_putRight cX3_putRight 4 none :: ([.fieldLink RX3 9 "EntryMasters$Marks" "rights" "[I", .static yX5_put, .initialized RX5, .code yX5_put cX5_put 3 none] ++ wsX30)
def wsX3_putReferral : List Cond := .code yX3_putReferral cX3_putReferral 3 none :: ([.fieldLink RX3 15 "EntryMasters$Marks" "referrals" "[Z"] ++ wsX30)
def wsX3_isReferral : List Cond := .code yX3_isReferral cX3_isReferral 2 (some .boolean) :: ([.fieldLink RX3 15 "EntryMasters$Marks" "referrals" "[Z"] ++ wsX30)
def wsX4_parentAt : List Cond := .code yX4_parentAt cX4_parentAt 2 (some .int) :: ([.fieldLink RX4 19 "EntryMasters$Tree" "parents" "[I", .static yX5_at, .initialized RX5, .code yX5_at cX5_at 2 (some .int)] ++ wsX40)
def wsX3_rightThatCounts : List Cond := .code yX3_rightThatCounts cX3_rightThatCounts 7 (some .int) :: ([.fieldLink RX3 9 "EntryMasters$Marks" "rights" "[I", .static yX5_at, .initialized RX5, .code yX5_at cX5_at 2 (some .int), .methodLink RX3 33 yX4_parentAt, .instanceMethod yX4_parentAt, .selects RX4 yX4_parentAt yX4_parentAt, .initialized RX4, .code yX4_parentAt cX4_parentAt 2 (some .int), .fieldLink RX4 19 "EntryMasters$Tree" "parents" "[I"] ++ wsX30 ++ wsX40)
def wsX4_clear : List Cond := .code yX4_clear cX4_clear 2 none :: ([.fieldLink RX4 15 "EntryMasters$Tree" "there" "[Z", .fieldLink RX4 19 "EntryMasters$Tree" "parents" "[I", .fieldLink RX4 22 "EntryMasters$Tree" "labels" "[I", .fieldLink RX4 25 "EntryMasters$Tree" "classesOfEntries" "[I", .fieldLink RX4 28 "EntryMasters$Tree" "values" "[I", .fieldLink RX4 52 "EntryMasters$Tree" "size" "I", .methodLink RX4 46 yJ7_fill_53178, .static yJ7_fill_53178, .initialized RJ7, .code yJ7_fill_53178 cJ7_fill_53178 4 none] ++ wsX40)
def wsX4_init : List Cond := .code yX4_init cX4_init 4 none :: ([.methodLink RX4 3 objectInit, .instanceMethod objectInit, .code objectInit ⟨#[0xb1]⟩ 1 none, .arrayClass .int, .fieldLink RX4 9 "EntryMasters$Tree" "known" "[I", .arrayClass .boolean, .fieldLink RX4 15 "EntryMasters$Tree" "there" "[Z", .fieldLink RX4 19 "EntryMasters$Tree" "parents" "[I", .fieldLink RX4 22 "EntryMasters$Tree" "labels" "[I", .fieldLink RX4 25 "EntryMasters$Tree" "classesOfEntries" "[I", .fieldLink RX4 28 "EntryMasters$Tree" "values" "[I", .fieldLink RX4 31 "EntryMasters$Tree" "master" "I", .fieldLink RX4 35 "EntryMasters$Tree" "log" "LEntryMasters$Log;", .fieldLink RX4 39 "EntryMasters$Tree" "classes" "LEntryMasters$Classes;", .methodLink RX4 43 yX4_clear, .instanceMethod yX4_clear, .selects RX4 yX4_clear yX4_clear, .initialized RX4, .code yX4_clear cX4_clear 2 none, .fieldLink RX4 52 "EntryMasters$Tree" "size" "I", .methodLink RX4 46 yJ7_fill_53178, .static yJ7_fill_53178, .initialized RJ7, .code yJ7_fill_53178 cJ7_fill_53178 4 none] ++ wsX40)
def wsX4_knows : List Cond := .code yX4_knows cX4_knows 3 (some .boolean) :: ([.fieldLink RX4 55 "EntryMasters$Tree" "knownCount" "I", .fieldLink RX4 9 "EntryMasters$Tree" "known" "[I"] ++ wsX40)
def wsX4_stampOfNext : List Cond := .code yX4_stampOfNext cX4_stampOfNext 2 (some .int) :: ([.fieldLink RX4 55 "EntryMasters$Tree" "knownCount" "I", .fieldLink RX4 35 "EntryMasters$Tree" "log" "LEntryMasters$Log;", .fieldLink RX4 9 "EntryMasters$Tree" "known" "[I", .fieldLink RX4 31 "EntryMasters$Tree" "master" "I", .static yX5_at, .initialized RX5, .code yX5_at cX5_at 2 (some .int), .methodLink RX4 62 yX2_timeAt, .instanceMethod yX2_timeAt, .selects RX2 yX2_timeAt yX2_timeAt, .initialized RX2, .code yX2_timeAt cX2_timeAt 2 (some .int), .fieldLink RX2 15 "EntryMasters$Log" "stamps" "[I", .methodLink RX4 68 yX2_stampFrom, .static yX2_stampFrom, .code yX2_stampFrom cX2_stampFrom 2 (some .int)] ++ wsX40 ++ wsX20)
def wsX4_putInOrder : List Cond := .code yX4_putInOrder cX4_putInOrder 3 (some .int) :: ([.fieldLink RX4 55 "EntryMasters$Tree" "knownCount" "I", .fieldLink RX4 35 "EntryMasters$Tree" "log" "LEntryMasters$Log;", .fieldLink RX4 9 "EntryMasters$Tree" "known" "[I", .static yX5_at, .initialized RX5, .code yX5_at cX5_at 2 (some .int), .methodLink RX4 79 yX2_stampAt, .instanceMethod yX2_stampAt, .selects RX2 yX2_stampAt yX2_stampAt, .initialized RX2, .code yX2_stampAt cX2_stampAt 2 (some .int), .fieldLink RX2 15 "EntryMasters$Log" "stamps" "[I", .static yX5_put, .code yX5_put cX5_put 3 none] ++ wsX40 ++ wsX20)
def wsX4_has : List Cond := .code yX4_has cX4_has 2 (some .boolean) :: ([.fieldLink RX4 15 "EntryMasters$Tree" "there" "[Z"] ++ wsX40)
def wsX4_areLike : List Cond := .code yX4_areLike cX4_areLike 2 (some .boolean) :: ([])
def wsX4_childWithLabelLike : List Cond := .code yX4_childWithLabelLike cX4_childWithLabelLike 5 (some .int) :: ([.fieldLink RX4 19 "EntryMasters$Tree" "parents" "[I", .fieldLink RX4 22 "EntryMasters$Tree" "labels" "[I", .methodLink RX4 148 yX4_areLike, .static yX4_areLike, .initialized RX4, .code yX4_areLike cX4_areLike 2 (some .boolean)] ++ wsX40)
def wsX4_settle : List Cond := .code yX4_settle cX4_settle 4 none :: ([.fieldLink RX4 22 "EntryMasters$Tree" "labels" "[I", .fieldLink RX4 19 "EntryMasters$Tree" "parents" "[I", .methodLink RX4 119 yX4_has, .instanceMethod yX4_has, .selects RX4 yX4_has yX4_has, .initialized RX4, .code yX4_has cX4_has 2 (some .boolean), .fieldLink RX4 15 "EntryMasters$Tree" "there" "[Z", .methodLink RX4 130 yX4_childWithLabelLike, .instanceMethod yX4_childWithLabelLike, .selects RX4 yX4_childWithLabelLike yX4_childWithLabelLike, .code yX4_childWithLabelLike cX4_childWithLabelLike 5 (some .int), .methodLink RX4 148 yX4_areLike, .static yX4_areLike, .code yX4_areLike cX4_areLike 2 (some .boolean)] ++ wsX40)
def wsX4_performAdding : List Cond := .code yX4_performAdding cX4_performAdding 5 none :: ([.fieldLink RX4 15 "EntryMasters$Tree" "there" "[Z", .fieldLink RX4 22 "EntryMasters$Tree" "labels" "[I", .fieldLink RX4 25 "EntryMasters$Tree" "classesOfEntries" "[I", .fieldLink RX4 52 "EntryMasters$Tree" "size" "I", .methodLink RX4 115 yX4_settle, .instanceMethod yX4_settle, .selects RX4 yX4_settle yX4_settle, .initialized RX4, .code yX4_settle cX4_settle 4 none, .fieldLink RX4 19 "EntryMasters$Tree" "parents" "[I", .methodLink RX4 119 yX4_has, .instanceMethod yX4_has, .selects RX4 yX4_has yX4_has, .code yX4_has cX4_has 2 (some .boolean), .methodLink RX4 130 yX4_childWithLabelLike, .instanceMethod yX4_childWithLabelLike, .selects RX4 yX4_childWithLabelLike yX4_childWithLabelLike, .code yX4_childWithLabelLike cX4_childWithLabelLike 5 (some .int), .methodLink RX4 148 yX4_areLike, .static yX4_areLike, .code yX4_areLike cX4_areLike 2 (some .boolean)] ++ wsX40)
def wsX4_performSetting_r1 : List Cond := [Cond.fieldLink RX4 28 "EntryMasters$Tree" "values" "[I", Cond.methodLink RX4 119 yX4_has, Cond.instanceMethod yX4_has, Cond.selects RX4 yX4_has yX4_has, Cond.initialized RX4, Cond.code yX4_has cX4_has 2 (some .boolean), Cond.fieldLink RX4 15 "EntryMasters$Tree" "there" "[Z", Cond.methodLink RX4 123 yX4_mayHold, Cond.instanceMethod yX4_mayHold, Cond.selects RX4 yX4_mayHold yX4_mayHold, Cond.code yX4_mayHold cX4_mayHold 3 (some .boolean), Cond.fieldLink RX4 39 "EntryMasters$Tree" "classes" "LEntryMasters$Classes;", Cond.fieldLink RX4 25 "EntryMasters$Tree" "classesOfEntries" "[I", Cond.static yX5_at, Cond.initialized RX5, Cond.code yX5_at cX5_at 2 (some .int), Cond.methodLink RX4 134 yX0_allows, Cond.instanceMethod yX0_allows, Cond.selects RX0 yX0_allows yX0_allows, Cond.initialized RX0, Cond.code yX0_allows cX0_allows 3 (some .boolean), Cond.fieldLink RX0 15 "EntryMasters$Classes" "allowed" "[I", Cond.methodLink RX0 28 yX0_hasBit, Cond.static yX0_hasBit]
def wsX4_performSetting_r2 : List Cond := [Cond.code yX0_hasBit cX0_hasBit 2 (some .boolean), Cond.static yX5_put, Cond.code yX5_put cX5_put 3 none]
def wsX4_performSetting : List Cond := .code yX4_performSetting cX4_performSetting 4 none :: ((wsX4_performSetting_r1 ++ wsX4_performSetting_r2) ++ wsX40 ++ wsX00)
def wsX4_isAtOrBelow : List Cond := .code yX4_isAtOrBelow cX4_isAtOrBelow 5 (some .boolean) :: ([.methodLink RX4 145 yX4_parentAt, .instanceMethod yX4_parentAt, .selects RX4 yX4_parentAt yX4_parentAt, .initialized RX4, .code yX4_parentAt cX4_parentAt 2 (some .int), .fieldLink RX4 19 "EntryMasters$Tree" "parents" "[I", .static yX5_at, .initialized RX5, .code yX5_at cX5_at 2 (some .int)] ++ wsX40)
def wsX4_performMoving_r1 : List Cond := [Cond.fieldLink RX4 22 "EntryMasters$Tree" "labels" "[I", Cond.methodLink RX4 119 yX4_has, Cond.instanceMethod yX4_has, Cond.selects RX4 yX4_has yX4_has, Cond.initialized RX4, Cond.code yX4_has cX4_has 2 (some .boolean), Cond.fieldLink RX4 15 "EntryMasters$Tree" "there" "[Z", Cond.methodLink RX4 127 yX4_isAtOrBelow, Cond.instanceMethod yX4_isAtOrBelow, Cond.selects RX4 yX4_isAtOrBelow yX4_isAtOrBelow, Cond.code yX4_isAtOrBelow cX4_isAtOrBelow 5 (some .boolean), Cond.methodLink RX4 145 yX4_parentAt, Cond.instanceMethod yX4_parentAt, Cond.selects RX4 yX4_parentAt yX4_parentAt, Cond.code yX4_parentAt cX4_parentAt 2 (some .int), Cond.fieldLink RX4 19 "EntryMasters$Tree" "parents" "[I", Cond.static yX5_at, Cond.initialized RX5, Cond.code yX5_at cX5_at 2 (some .int), Cond.methodLink RX4 115 yX4_settle, Cond.instanceMethod yX4_settle, Cond.selects RX4 yX4_settle yX4_settle, Cond.code yX4_settle cX4_settle 4 none, Cond.methodLink RX4 130 yX4_childWithLabelLike]
def wsX4_performMoving_r2 : List Cond := [Cond.instanceMethod yX4_childWithLabelLike, Cond.selects RX4 yX4_childWithLabelLike yX4_childWithLabelLike, Cond.code yX4_childWithLabelLike cX4_childWithLabelLike 5 (some .int), Cond.methodLink RX4 148 yX4_areLike, Cond.static yX4_areLike, Cond.code yX4_areLike cX4_areLike 2 (some .boolean)]
def wsX4_performMoving : List Cond := .code yX4_performMoving cX4_performMoving 4 none :: ((wsX4_performMoving_r1 ++ wsX4_performMoving_r2) ++ wsX40)
def wsX4_performDeleting : List Cond := .code yX4_performDeleting cX4_performDeleting 3 none :: ([.fieldLink RX4 15 "EntryMasters$Tree" "there" "[Z", .fieldLink RX4 19 "EntryMasters$Tree" "parents" "[I", .fieldLink RX4 52 "EntryMasters$Tree" "size" "I", .methodLink RX4 119 yX4_has, .instanceMethod yX4_has, .selects RX4 yX4_has yX4_has, .initialized RX4, .code yX4_has cX4_has 2 (some .boolean), .methodLink RX4 115 yX4_settle, .instanceMethod yX4_settle, .selects RX4 yX4_settle yX4_settle, .code yX4_settle cX4_settle 4 none, .fieldLink RX4 22 "EntryMasters$Tree" "labels" "[I", .methodLink RX4 130 yX4_childWithLabelLike, .instanceMethod yX4_childWithLabelLike, .selects RX4 yX4_childWithLabelLike yX4_childWithLabelLike, .code yX4_childWithLabelLike cX4_childWithLabelLike 5 (some .int), .methodLink RX4 148 yX4_areLike, .static yX4_areLike, .code yX4_areLike cX4_areLike 2 (some .boolean)] ++ wsX40)
def wsX4_perform_r1 : List Cond := [Cond.fieldLink RX4 35 "EntryMasters$Tree" "log" "LEntryMasters$Log;", Cond.static yX5_at, Cond.initialized RX5, Cond.code yX5_at cX5_at 2 (some .int), Cond.methodLink RX4 101 yX4_performAdding, Cond.instanceMethod yX4_performAdding, Cond.selects RX4 yX4_performAdding yX4_performAdding, Cond.initialized RX4, Cond.code yX4_performAdding cX4_performAdding 5 none, Cond.fieldLink RX4 15 "EntryMasters$Tree" "there" "[Z", Cond.fieldLink RX4 22 "EntryMasters$Tree" "labels" "[I", Cond.fieldLink RX4 25 "EntryMasters$Tree" "classesOfEntries" "[I", Cond.fieldLink RX4 52 "EntryMasters$Tree" "size" "I", Cond.methodLink RX4 115 yX4_settle, Cond.instanceMethod yX4_settle, Cond.selects RX4 yX4_settle yX4_settle, Cond.code yX4_settle cX4_settle 4 none, Cond.fieldLink RX4 19 "EntryMasters$Tree" "parents" "[I", Cond.methodLink RX4 119 yX4_has, Cond.instanceMethod yX4_has, Cond.selects RX4 yX4_has yX4_has, Cond.code yX4_has cX4_has 2 (some .boolean), Cond.methodLink RX4 130 yX4_childWithLabelLike, Cond.instanceMethod yX4_childWithLabelLike]
def wsX4_perform_r2 : List Cond := [Cond.selects RX4 yX4_childWithLabelLike yX4_childWithLabelLike, Cond.code yX4_childWithLabelLike cX4_childWithLabelLike 5 (some .int), Cond.methodLink RX4 148 yX4_areLike, Cond.static yX4_areLike, Cond.code yX4_areLike cX4_areLike 2 (some .boolean), Cond.methodLink RX4 105 yX4_performSetting, Cond.instanceMethod yX4_performSetting, Cond.selects RX4 yX4_performSetting yX4_performSetting, Cond.code yX4_performSetting cX4_performSetting 4 none, Cond.fieldLink RX4 28 "EntryMasters$Tree" "values" "[I", Cond.methodLink RX4 123 yX4_mayHold, Cond.instanceMethod yX4_mayHold, Cond.selects RX4 yX4_mayHold yX4_mayHold, Cond.code yX4_mayHold cX4_mayHold 3 (some .boolean), Cond.fieldLink RX4 39 "EntryMasters$Tree" "classes" "LEntryMasters$Classes;", Cond.methodLink RX4 134 yX0_allows, Cond.instanceMethod yX0_allows, Cond.selects RX0 yX0_allows yX0_allows, Cond.initialized RX0, Cond.code yX0_allows cX0_allows 3 (some .boolean), Cond.fieldLink RX0 15 "EntryMasters$Classes" "allowed" "[I", Cond.methodLink RX0 28 yX0_hasBit, Cond.static yX0_hasBit, Cond.code yX0_hasBit cX0_hasBit 2 (some .boolean)]
def wsX4_perform_r3 : List Cond := [Cond.static yX5_put, Cond.code yX5_put cX5_put 3 none, Cond.methodLink RX4 109 yX4_performMoving, Cond.instanceMethod yX4_performMoving, Cond.selects RX4 yX4_performMoving yX4_performMoving, Cond.code yX4_performMoving cX4_performMoving 4 none, Cond.methodLink RX4 127 yX4_isAtOrBelow, Cond.instanceMethod yX4_isAtOrBelow, Cond.selects RX4 yX4_isAtOrBelow yX4_isAtOrBelow, Cond.code yX4_isAtOrBelow cX4_isAtOrBelow 5 (some .boolean), Cond.methodLink RX4 145 yX4_parentAt, Cond.instanceMethod yX4_parentAt, Cond.selects RX4 yX4_parentAt yX4_parentAt, Cond.code yX4_parentAt cX4_parentAt 2 (some .int), Cond.methodLink RX4 112 yX4_performDeleting, Cond.instanceMethod yX4_performDeleting, Cond.selects RX4 yX4_performDeleting yX4_performDeleting, Cond.code yX4_performDeleting cX4_performDeleting 3 none]
def wsX4_perform : List Cond := .code yX4_perform cX4_perform 5 none :: ((wsX4_perform_r1 ++ (wsX4_perform_r2 ++ wsX4_perform_r3)) ++ wsX40 ++ wsX20 ++ wsX00)
def wsX4_learn_r1 : List Cond := [Cond.fieldLink RX4 55 "EntryMasters$Tree" "knownCount" "I", Cond.fieldLink RX4 9 "EntryMasters$Tree" "known" "[I", Cond.methodLink RX4 72 yX4_putInOrder, Cond.instanceMethod yX4_putInOrder, Cond.selects RX4 yX4_putInOrder yX4_putInOrder, Cond.initialized RX4, Cond.code yX4_putInOrder cX4_putInOrder 3 (some .int), Cond.fieldLink RX4 35 "EntryMasters$Tree" "log" "LEntryMasters$Log;", Cond.static yX5_at, Cond.initialized RX5, Cond.code yX5_at cX5_at 2 (some .int), Cond.methodLink RX4 79 yX2_stampAt, Cond.instanceMethod yX2_stampAt, Cond.selects RX2 yX2_stampAt yX2_stampAt, Cond.initialized RX2, Cond.code yX2_stampAt cX2_stampAt 2 (some .int), Cond.fieldLink RX2 15 "EntryMasters$Log" "stamps" "[I", Cond.static yX5_put, Cond.code yX5_put cX5_put 3 none, Cond.methodLink RX4 43 yX4_clear, Cond.instanceMethod yX4_clear, Cond.selects RX4 yX4_clear yX4_clear, Cond.code yX4_clear cX4_clear 2 none, Cond.fieldLink RX4 15 "EntryMasters$Tree" "there" "[Z"]
def wsX4_learn_r2 : List Cond := [Cond.fieldLink RX4 19 "EntryMasters$Tree" "parents" "[I", Cond.fieldLink RX4 22 "EntryMasters$Tree" "labels" "[I", Cond.fieldLink RX4 25 "EntryMasters$Tree" "classesOfEntries" "[I", Cond.fieldLink RX4 28 "EntryMasters$Tree" "values" "[I", Cond.fieldLink RX4 52 "EntryMasters$Tree" "size" "I", Cond.methodLink RX4 46 yJ7_fill_53178, Cond.static yJ7_fill_53178, Cond.initialized RJ7, Cond.code yJ7_fill_53178 cJ7_fill_53178 4 none, Cond.methodLink RX4 75 yX4_perform, Cond.instanceMethod yX4_perform, Cond.selects RX4 yX4_perform yX4_perform, Cond.code yX4_perform cX4_perform 5 none, Cond.methodLink RX4 101 yX4_performAdding, Cond.instanceMethod yX4_performAdding, Cond.selects RX4 yX4_performAdding yX4_performAdding, Cond.code yX4_performAdding cX4_performAdding 5 none, Cond.methodLink RX4 115 yX4_settle, Cond.instanceMethod yX4_settle, Cond.selects RX4 yX4_settle yX4_settle, Cond.code yX4_settle cX4_settle 4 none, Cond.methodLink RX4 119 yX4_has, Cond.instanceMethod yX4_has, Cond.selects RX4 yX4_has yX4_has]
def wsX4_learn_r3 : List Cond := [Cond.code yX4_has cX4_has 2 (some .boolean), Cond.methodLink RX4 130 yX4_childWithLabelLike, Cond.instanceMethod yX4_childWithLabelLike, Cond.selects RX4 yX4_childWithLabelLike yX4_childWithLabelLike, Cond.code yX4_childWithLabelLike cX4_childWithLabelLike 5 (some .int), Cond.methodLink RX4 148 yX4_areLike, Cond.static yX4_areLike, Cond.code yX4_areLike cX4_areLike 2 (some .boolean), Cond.methodLink RX4 105 yX4_performSetting, Cond.instanceMethod yX4_performSetting, Cond.selects RX4 yX4_performSetting yX4_performSetting, Cond.code yX4_performSetting cX4_performSetting 4 none, Cond.methodLink RX4 123 yX4_mayHold, Cond.instanceMethod yX4_mayHold, Cond.selects RX4 yX4_mayHold yX4_mayHold, Cond.code yX4_mayHold cX4_mayHold 3 (some .boolean), Cond.fieldLink RX4 39 "EntryMasters$Tree" "classes" "LEntryMasters$Classes;", Cond.methodLink RX4 134 yX0_allows, Cond.instanceMethod yX0_allows, Cond.selects RX0 yX0_allows yX0_allows, Cond.initialized RX0, Cond.code yX0_allows cX0_allows 3 (some .boolean), Cond.fieldLink RX0 15 "EntryMasters$Classes" "allowed" "[I", Cond.methodLink RX0 28 yX0_hasBit]
def wsX4_learn_r4 : List Cond := [Cond.static yX0_hasBit, Cond.code yX0_hasBit cX0_hasBit 2 (some .boolean), Cond.methodLink RX4 109 yX4_performMoving, Cond.instanceMethod yX4_performMoving, Cond.selects RX4 yX4_performMoving yX4_performMoving, Cond.code yX4_performMoving cX4_performMoving 4 none, Cond.methodLink RX4 127 yX4_isAtOrBelow, Cond.instanceMethod yX4_isAtOrBelow, Cond.selects RX4 yX4_isAtOrBelow yX4_isAtOrBelow, Cond.code yX4_isAtOrBelow cX4_isAtOrBelow 5 (some .boolean), Cond.methodLink RX4 145 yX4_parentAt, Cond.instanceMethod yX4_parentAt, Cond.selects RX4 yX4_parentAt yX4_parentAt, Cond.code yX4_parentAt cX4_parentAt 2 (some .int), Cond.methodLink RX4 112 yX4_performDeleting, Cond.instanceMethod yX4_performDeleting, Cond.selects RX4 yX4_performDeleting yX4_performDeleting, Cond.code yX4_performDeleting cX4_performDeleting 3 none]
def wsX4_learn : List Cond := .code yX4_learn cX4_learn 3 none :: ((wsX4_learn_r1 ++ (wsX4_learn_r2 ++ (wsX4_learn_r3 ++ wsX4_learn_r4))) ++ wsX40 ++ wsX20 ++ wsX00)
def wsX4_labelAt : List Cond := .code yX4_labelAt cX4_labelAt 2 (some .int) :: ([.fieldLink RX4 22 "EntryMasters$Tree" "labels" "[I", .static yX5_at, .initialized RX5, .code yX5_at cX5_at 2 (some .int)] ++ wsX40)
def wsX4_hasAllNeeded : List Cond := .code yX4_hasAllNeeded cX4_hasAllNeeded 4 (some .boolean) :: ([.fieldLink RX4 25 "EntryMasters$Tree" "classesOfEntries" "[I", .fieldLink RX4 39 "EntryMasters$Tree" "classes" "LEntryMasters$Classes;", .static yX5_at, .initialized RX5, .code yX5_at cX5_at 2 (some .int), .methodLink RX4 139 yX0_needs, .instanceMethod yX0_needs, .selects RX0 yX0_needs yX0_needs, .initialized RX0, .code yX0_needs cX0_needs 3 (some .boolean), .fieldLink RX0 9 "EntryMasters$Classes" "needed" "[I", .methodLink RX0 28 yX0_hasBit, .static yX0_hasBit, .code yX0_hasBit cX0_hasBit 2 (some .boolean), .methodLink RX4 142 yX4_valueAt, .instanceMethod yX4_valueAt, .selects RX4 yX4_valueAt yX4_valueAt, .initialized RX4, .code yX4_valueAt cX4_valueAt 3 (some .int), .fieldLink RX4 28 "EntryMasters$Tree" "values" "[I"] ++ wsX40 ++ wsX00)
def wsX4_hasChild : List Cond := .code yX4_hasChild cX4_hasChild 3 (some .boolean) :: ([.fieldLink RX4 19 "EntryMasters$Tree" "parents" "[I"] ++ wsX40)
def wsX4_hasSameEntry : List Cond := .code yX4_hasSameEntry cX4_hasSameEntry 4 (some .boolean) :: ([.fieldLink RX4 25 "EntryMasters$Tree" "classesOfEntries" "[I", .methodLink RX4 142 yX4_valueAt, .instanceMethod yX4_valueAt, .selects RX4 yX4_valueAt yX4_valueAt, .initialized RX4, .code yX4_valueAt cX4_valueAt 3 (some .int), .fieldLink RX4 28 "EntryMasters$Tree" "values" "[I", .static yX5_at, .initialized RX5, .code yX5_at cX5_at 2 (some .int), .methodLink RX4 145 yX4_parentAt, .instanceMethod yX4_parentAt, .selects RX4 yX4_parentAt yX4_parentAt, .code yX4_parentAt cX4_parentAt 2 (some .int), .fieldLink RX4 19 "EntryMasters$Tree" "parents" "[I", .methodLink RX4 155 yX4_labelAt, .instanceMethod yX4_labelAt, .selects RX4 yX4_labelAt yX4_labelAt, .code yX4_labelAt cX4_labelAt 2 (some .int), .fieldLink RX4 22 "EntryMasters$Tree" "labels" "[I"] ++ wsX40)
def wsX4_isSameAs_r1 : List Cond := [Cond.fieldLink RX4 15 "EntryMasters$Tree" "there" "[Z", Cond.methodLink RX4 151 yX4_hasSameEntry, Cond.instanceMethod yX4_hasSameEntry, Cond.selects RX4 yX4_hasSameEntry yX4_hasSameEntry, Cond.initialized RX4, Cond.code yX4_hasSameEntry cX4_hasSameEntry 4 (some .boolean), Cond.fieldLink RX4 25 "EntryMasters$Tree" "classesOfEntries" "[I", Cond.methodLink RX4 142 yX4_valueAt, Cond.instanceMethod yX4_valueAt, Cond.selects RX4 yX4_valueAt yX4_valueAt, Cond.code yX4_valueAt cX4_valueAt 3 (some .int), Cond.fieldLink RX4 28 "EntryMasters$Tree" "values" "[I", Cond.static yX5_at, Cond.initialized RX5, Cond.code yX5_at cX5_at 2 (some .int), Cond.methodLink RX4 145 yX4_parentAt, Cond.instanceMethod yX4_parentAt, Cond.selects RX4 yX4_parentAt yX4_parentAt, Cond.code yX4_parentAt cX4_parentAt 2 (some .int), Cond.fieldLink RX4 19 "EntryMasters$Tree" "parents" "[I", Cond.methodLink RX4 155 yX4_labelAt, Cond.instanceMethod yX4_labelAt, Cond.selects RX4 yX4_labelAt yX4_labelAt, Cond.code yX4_labelAt cX4_labelAt 2 (some .int)]
def wsX4_isSameAs_r2 : List Cond := [Cond.fieldLink RX4 22 "EntryMasters$Tree" "labels" "[I"]
def wsX4_isSameAs : List Cond := .code yX4_isSameAs cX4_isSameAs 3 (some .boolean) :: ((wsX4_isSameAs_r1 ++ wsX4_isSameAs_r2) ++ wsX40)
def wsX4_orderUnderParent : List Cond := .code yX4_orderUnderParent cX4_orderUnderParent 3 (some .int) :: ([.methodLink RX4 155 yX4_labelAt, .instanceMethod yX4_labelAt, .selects RX4 yX4_labelAt yX4_labelAt, .initialized RX4, .code yX4_labelAt cX4_labelAt 2 (some .int), .fieldLink RX4 22 "EntryMasters$Tree" "labels" "[I", .static yX5_at, .initialized RX5, .code yX5_at cX5_at 2 (some .int)] ++ wsX40)
def wsX4_childAfter : List Cond := .code yX4_childAfter cX4_childAfter 6 (some .int) :: ([.fieldLink RX4 19 "EntryMasters$Tree" "parents" "[I", .methodLink RX4 158 yX3_isReferral, .instanceMethod yX3_isReferral, .selects RX3 yX3_isReferral yX3_isReferral, .initialized RX3, .code yX3_isReferral cX3_isReferral 2 (some .boolean), .fieldLink RX3 15 "EntryMasters$Marks" "referrals" "[Z", .methodLink RX4 163 yX4_orderUnderParent, .instanceMethod yX4_orderUnderParent, .selects RX4 yX4_orderUnderParent yX4_orderUnderParent, .initialized RX4, .code yX4_orderUnderParent cX4_orderUnderParent 3 (some .int), .methodLink RX4 155 yX4_labelAt, .instanceMethod yX4_labelAt, .selects RX4 yX4_labelAt yX4_labelAt, .code yX4_labelAt cX4_labelAt 2 (some .int), .fieldLink RX4 22 "EntryMasters$Tree" "labels" "[I", .static yX5_at, .initialized RX5, .code yX5_at cX5_at 2 (some .int)] ++ wsX40 ++ wsX30)
def wsX4_entryAfter_r1 : List Cond := [Cond.methodLink RX4 166 yX4_childAfter, Cond.instanceMethod yX4_childAfter, Cond.selects RX4 yX4_childAfter yX4_childAfter, Cond.initialized RX4, Cond.code yX4_childAfter cX4_childAfter 6 (some .int), Cond.fieldLink RX4 19 "EntryMasters$Tree" "parents" "[I", Cond.methodLink RX4 158 yX3_isReferral, Cond.instanceMethod yX3_isReferral, Cond.selects RX3 yX3_isReferral yX3_isReferral, Cond.initialized RX3, Cond.code yX3_isReferral cX3_isReferral 2 (some .boolean), Cond.fieldLink RX3 15 "EntryMasters$Marks" "referrals" "[Z", Cond.methodLink RX4 163 yX4_orderUnderParent, Cond.instanceMethod yX4_orderUnderParent, Cond.selects RX4 yX4_orderUnderParent yX4_orderUnderParent, Cond.code yX4_orderUnderParent cX4_orderUnderParent 3 (some .int), Cond.methodLink RX4 155 yX4_labelAt, Cond.instanceMethod yX4_labelAt, Cond.selects RX4 yX4_labelAt yX4_labelAt, Cond.code yX4_labelAt cX4_labelAt 2 (some .int), Cond.fieldLink RX4 22 "EntryMasters$Tree" "labels" "[I", Cond.static yX5_at, Cond.initialized RX5, Cond.code yX5_at cX5_at 2 (some .int)]
def wsX4_entryAfter_r2 : List Cond := [Cond.methodLink RX4 145 yX4_parentAt, Cond.instanceMethod yX4_parentAt, Cond.selects RX4 yX4_parentAt yX4_parentAt, Cond.code yX4_parentAt cX4_parentAt 2 (some .int)]
def wsX4_entryAfter : List Cond := .code yX4_entryAfter cX4_entryAfter 8 (some .int) :: ((wsX4_entryAfter_r1 ++ wsX4_entryAfter_r2) ++ wsX40 ++ wsX30)
def wsX5_init_r1 : List Cond := [Cond.methodLink RX5 3 objectInit, Cond.instanceMethod objectInit, Cond.code objectInit ⟨#[0xb1]⟩ 1 none, Cond.classLink RX5 9 RX0, Cond.instantiable RX0 2, Cond.initialized RX0, Cond.fieldLink RX5 12 "EntryMasters" "classes" "LEntryMasters$Classes;", Cond.classLink RX5 16 RX2, Cond.instantiable RX2 7, Cond.initialized RX2, Cond.fieldLink RX5 19 "EntryMasters" "log" "LEntryMasters$Log;", Cond.classLink RX5 23 RX4, Cond.instantiable RX4 11, Cond.initialized RX4, Cond.fieldLink RX5 28 "EntryMasters" "firstTree" "LEntryMasters$Tree;", Cond.fieldLink RX5 32 "EntryMasters" "secondTree" "LEntryMasters$Tree;", Cond.classLink RX5 35 RX3, Cond.instantiable RX3 2, Cond.initialized RX3, Cond.fieldLink RX5 38 "EntryMasters" "marks" "LEntryMasters$Marks;", Cond.classLink RX5 42 RX1, Cond.instantiable RX1 5, Cond.initialized RX1, Cond.fieldLink RX5 45 "EntryMasters" "filters" "LEntryMasters$Filters;"]
def wsX5_init_r2 : List Cond := [Cond.methodLink RX5 11 yX0_init, Cond.instanceMethod yX0_init, Cond.code yX0_init cX0_init 1 none, Cond.methodLink RX0 3 objectInit, Cond.arrayClass .int, Cond.fieldLink RX0 9 "EntryMasters$Classes" "needed" "[I", Cond.fieldLink RX0 15 "EntryMasters$Classes" "allowed" "[I", Cond.methodLink RX0 18 yJ7_fill_53178, Cond.static yJ7_fill_53178, Cond.initialized RJ7, Cond.code yJ7_fill_53178 cJ7_fill_53178 4 none, Cond.instanceMethod yX2_init, Cond.code yX2_init cX2_init 1 none, Cond.methodLink RX2 3 objectInit, Cond.fieldLink RX2 9 "EntryMasters$Log" "kinds" "[I", Cond.fieldLink RX2 15 "EntryMasters$Log" "stamps" "[I", Cond.fieldLink RX2 18 "EntryMasters$Log" "entries" "[I", Cond.fieldLink RX2 21 "EntryMasters$Log" "targets" "[I", Cond.fieldLink RX2 24 "EntryMasters$Log" "contents" "[I", Cond.fieldLink RX2 27 "EntryMasters$Log" "classesOfAdded" "[I", Cond.methodLink RX5 25 yX4_init, Cond.instanceMethod yX4_init, Cond.code yX4_init cX4_init 4 none, Cond.methodLink RX4 3 objectInit]
def wsX5_init_r3 : List Cond := [Cond.fieldLink RX4 9 "EntryMasters$Tree" "known" "[I", Cond.arrayClass .boolean, Cond.fieldLink RX4 15 "EntryMasters$Tree" "there" "[Z", Cond.fieldLink RX4 19 "EntryMasters$Tree" "parents" "[I", Cond.fieldLink RX4 22 "EntryMasters$Tree" "labels" "[I", Cond.fieldLink RX4 25 "EntryMasters$Tree" "classesOfEntries" "[I", Cond.fieldLink RX4 28 "EntryMasters$Tree" "values" "[I", Cond.fieldLink RX4 31 "EntryMasters$Tree" "master" "I", Cond.fieldLink RX4 35 "EntryMasters$Tree" "log" "LEntryMasters$Log;", Cond.fieldLink RX4 39 "EntryMasters$Tree" "classes" "LEntryMasters$Classes;", Cond.methodLink RX4 43 yX4_clear, Cond.instanceMethod yX4_clear, Cond.selects RX4 yX4_clear yX4_clear, Cond.code yX4_clear cX4_clear 2 none, Cond.fieldLink RX4 52 "EntryMasters$Tree" "size" "I", Cond.methodLink RX4 46 yJ7_fill_53178, Cond.methodLink RX5 37 yX3_init, Cond.instanceMethod yX3_init, Cond.code yX3_init cX3_init 1 none, Cond.methodLink RX3 3 objectInit, Cond.fieldLink RX3 9 "EntryMasters$Marks" "rights" "[I", Cond.fieldLink RX3 15 "EntryMasters$Marks" "referrals" "[Z", Cond.methodLink RX3 19 yJ7_fill_53178, Cond.instanceMethod yX1_init]
def wsX5_init_r4 : List Cond := [Cond.code yX1_init cX1_init 1 none, Cond.methodLink RX1 3 objectInit, Cond.fieldLink RX1 9 "EntryMasters$Filters" "kinds" "[I", Cond.fieldLink RX1 15 "EntryMasters$Filters" "firsts" "[I", Cond.fieldLink RX1 18 "EntryMasters$Filters" "seconds" "[I", Cond.fieldLink RX1 21 "EntryMasters$Filters" "truths" "[I"]
def wsX5_init : List Cond := .code yX5_init cX5_init 1 none :: ((wsX5_init_r1 ++ (wsX5_init_r2 ++ (wsX5_init_r3 ++ wsX5_init_r4))) ++ wsX00 ++ wsX50 ++ wsX20 ++ wsX40 ++ wsX30 ++ wsX10)
def wsX5_checkIndex : List Cond := .code yX5_checkIndex cX5_checkIndex 2 none :: ([.classLink RX5 169 "java/lang/IndexOutOfBoundsException", .initialized "java/lang/IndexOutOfBoundsException"] ++ (vx_atS RX5 173 "java/lang/IndexOutOfBoundsException" ["java/lang/RuntimeException", "java/lang/Exception"]).filter goodWord)
def wsX5_checkArgument : List Cond := .code yX5_checkArgument cX5_checkArgument 3 none :: ([.classLink RX5 199 "java/lang/IllegalArgumentException", .initialized "java/lang/IllegalArgumentException"] ++ (vx_atS RX5 203 "java/lang/IllegalArgumentException" ["java/lang/RuntimeException", "java/lang/Exception"]).filter goodWord)
def wsX5_setClass : List Cond := .code yX5_setClass cX5_setClass 4 none :: ([.classLink RX5 61 "java/lang/IllegalStateException", .initialized "java/lang/IllegalStateException", .fieldLink RX5 19 "EntryMasters" "log" "LEntryMasters$Log;", .fieldLink RX5 12 "EntryMasters" "classes" "LEntryMasters$Classes;", .methodLink RX5 49 yX5_checkIndex, .static yX5_checkIndex, .initialized RX5, .code yX5_checkIndex cX5_checkIndex 2 none, .classLink RX5 169 "java/lang/IndexOutOfBoundsException", .initialized "java/lang/IndexOutOfBoundsException", .methodLink RX5 53 yX5_checkArgument, .static yX5_checkArgument, .code yX5_checkArgument cX5_checkArgument 3 none, .classLink RX5 199 "java/lang/IllegalArgumentException", .initialized "java/lang/IllegalArgumentException", .methodLink RX5 68 yX0_define, .instanceMethod yX0_define, .selects RX0 yX0_define yX0_define, .initialized RX0, .code yX0_define cX0_define 4 none, .fieldLink RX0 9 "EntryMasters$Classes" "needed" "[I", .fieldLink RX0 15 "EntryMasters$Classes" "allowed" "[I", .static yX5_put, .code yX5_put cX5_put 3 none] ++ wsX50 ++ wsX20 ++ wsX00 ++ (vx_atS RX5 65 "java/lang/IllegalStateException" ["java/lang/RuntimeException", "java/lang/Exception"]).filter goodWord ++ (vx_atS RX5 173 "java/lang/IndexOutOfBoundsException" ["java/lang/RuntimeException", "java/lang/Exception"]).filter goodWord ++ (vx_atS RX5 203 "java/lang/IllegalArgumentException" ["java/lang/RuntimeException", "java/lang/Exception"]).filter goodWord)
def wsX5_treeOf : List Cond := .code yX5_treeOf cX5_treeOf 2 (some (.object "EntryMasters$Tree")) :: ([.fieldLink RX5 28 "EntryMasters" "firstTree" "LEntryMasters$Tree;", .fieldLink RX5 32 "EntryMasters" "secondTree" "LEntryMasters$Tree;", .methodLink RX5 49 yX5_checkIndex, .static yX5_checkIndex, .initialized RX5, .code yX5_checkIndex cX5_checkIndex 2 none, .classLink RX5 169 "java/lang/IndexOutOfBoundsException", .initialized "java/lang/IndexOutOfBoundsException"] ++ wsX50 ++ (vx_atS RX5 173 "java/lang/IndexOutOfBoundsException" ["java/lang/RuntimeException", "java/lang/Exception"]).filter goodWord)
def wsX5_checkEntry : List Cond := .code yX5_checkEntry cX5_checkEntry 2 none :: ([.classLink RX5 169 "java/lang/IndexOutOfBoundsException", .initialized "java/lang/IndexOutOfBoundsException", .methodLink RX5 135 yX4_has, .instanceMethod yX4_has, .selects RX4 yX4_has yX4_has, .initialized RX4, .code yX4_has cX4_has 2 (some .boolean), .fieldLink RX4 15 "EntryMasters$Tree" "there" "[Z"] ++ wsX40 ++ (vx_atS RX5 173 "java/lang/IndexOutOfBoundsException" ["java/lang/RuntimeException", "java/lang/Exception"]).filter goodWord)
def wsX5_checkRoomForChange : List Cond := .code yX5_checkRoomForChange cX5_checkRoomForChange 1 none :: ([.classLink RX5 61 "java/lang/IllegalStateException", .initialized "java/lang/IllegalStateException", .fieldLink RX5 19 "EntryMasters" "log" "LEntryMasters$Log;"] ++ wsX50 ++ wsX20 ++ (vx_atS RX5 65 "java/lang/IllegalStateException" ["java/lang/RuntimeException", "java/lang/Exception"]).filter goodWord)
def wsX5_checkLabelIsFree : List Cond := .code yX5_checkLabelIsFree cX5_checkLabelIsFree 4 none :: ([.classLink RX5 61 "java/lang/IllegalStateException", .initialized "java/lang/IllegalStateException", .methodLink RX5 144 yX4_childWithLabelLike, .instanceMethod yX4_childWithLabelLike, .selects RX4 yX4_childWithLabelLike yX4_childWithLabelLike, .initialized RX4, .code yX4_childWithLabelLike cX4_childWithLabelLike 5 (some .int), .fieldLink RX4 19 "EntryMasters$Tree" "parents" "[I", .fieldLink RX4 22 "EntryMasters$Tree" "labels" "[I", .methodLink RX4 148 yX4_areLike, .static yX4_areLike, .code yX4_areLike cX4_areLike 2 (some .boolean)] ++ wsX40 ++ (vx_atS RX5 65 "java/lang/IllegalStateException" ["java/lang/RuntimeException", "java/lang/Exception"]).filter goodWord)
def wsX5_add_r1 : List Cond := [Cond.fieldLink RX5 19 "EntryMasters" "log" "LEntryMasters$Log;", Cond.methodLink RX5 71 yX5_treeOf, Cond.instanceMethod yX5_treeOf, Cond.selects RX5 yX5_treeOf yX5_treeOf, Cond.initialized RX5, Cond.code yX5_treeOf cX5_treeOf 2 (some (.object "EntryMasters$Tree")), Cond.fieldLink RX5 28 "EntryMasters" "firstTree" "LEntryMasters$Tree;", Cond.fieldLink RX5 32 "EntryMasters" "secondTree" "LEntryMasters$Tree;", Cond.methodLink RX5 49 yX5_checkIndex, Cond.static yX5_checkIndex, Cond.code yX5_checkIndex cX5_checkIndex 2 none, Cond.classLink RX5 169 "java/lang/IndexOutOfBoundsException", Cond.initialized "java/lang/IndexOutOfBoundsException", Cond.methodLink RX5 75 yX5_checkEntry, Cond.static yX5_checkEntry, Cond.code yX5_checkEntry cX5_checkEntry 2 none, Cond.methodLink RX5 135 yX4_has, Cond.instanceMethod yX4_has, Cond.selects RX4 yX4_has yX4_has, Cond.initialized RX4, Cond.code yX4_has cX4_has 2 (some .boolean), Cond.fieldLink RX4 15 "EntryMasters$Tree" "there" "[Z", Cond.methodLink RX5 53 yX5_checkArgument, Cond.static yX5_checkArgument]
def wsX5_add_r2 : List Cond := [Cond.code yX5_checkArgument cX5_checkArgument 3 none, Cond.classLink RX5 199 "java/lang/IllegalArgumentException", Cond.initialized "java/lang/IllegalArgumentException", Cond.methodLink RX5 79 yX5_checkRoomForChange, Cond.instanceMethod yX5_checkRoomForChange, Cond.selects RX5 yX5_checkRoomForChange yX5_checkRoomForChange, Cond.code yX5_checkRoomForChange cX5_checkRoomForChange 1 none, Cond.classLink RX5 61 "java/lang/IllegalStateException", Cond.initialized "java/lang/IllegalStateException", Cond.methodLink RX5 82 yX5_checkLabelIsFree, Cond.static yX5_checkLabelIsFree, Cond.code yX5_checkLabelIsFree cX5_checkLabelIsFree 4 none, Cond.methodLink RX5 144 yX4_childWithLabelLike, Cond.instanceMethod yX4_childWithLabelLike, Cond.selects RX4 yX4_childWithLabelLike yX4_childWithLabelLike, Cond.code yX4_childWithLabelLike cX4_childWithLabelLike 5 (some .int), Cond.fieldLink RX4 19 "EntryMasters$Tree" "parents" "[I", Cond.fieldLink RX4 22 "EntryMasters$Tree" "labels" "[I", Cond.methodLink RX4 148 yX4_areLike, Cond.static yX4_areLike, Cond.code yX4_areLike cX4_areLike 2 (some .boolean), Cond.methodLink RX5 86 yX4_stampOfNext, Cond.instanceMethod yX4_stampOfNext, Cond.selects RX4 yX4_stampOfNext yX4_stampOfNext]
def wsX5_add_r3 : List Cond := [Cond.code yX4_stampOfNext cX4_stampOfNext 2 (some .int), Cond.fieldLink RX4 55 "EntryMasters$Tree" "knownCount" "I", Cond.fieldLink RX4 35 "EntryMasters$Tree" "log" "LEntryMasters$Log;", Cond.fieldLink RX4 9 "EntryMasters$Tree" "known" "[I", Cond.fieldLink RX4 31 "EntryMasters$Tree" "master" "I", Cond.static yX5_at, Cond.code yX5_at cX5_at 2 (some .int), Cond.methodLink RX4 62 yX2_timeAt, Cond.instanceMethod yX2_timeAt, Cond.selects RX2 yX2_timeAt yX2_timeAt, Cond.initialized RX2, Cond.code yX2_timeAt cX2_timeAt 2 (some .int), Cond.fieldLink RX2 15 "EntryMasters$Log" "stamps" "[I", Cond.methodLink RX4 68 yX2_stampFrom, Cond.static yX2_stampFrom, Cond.code yX2_stampFrom cX2_stampFrom 2 (some .int), Cond.methodLink RX5 90 yX2_append, Cond.instanceMethod yX2_append, Cond.selects RX2 yX2_append yX2_append, Cond.code yX2_append cX2_append 8 (some .int), Cond.fieldLink RX2 30 "EntryMasters$Log" "count" "I", Cond.fieldLink RX2 9 "EntryMasters$Log" "kinds" "[I", Cond.fieldLink RX2 18 "EntryMasters$Log" "entries" "[I", Cond.fieldLink RX2 21 "EntryMasters$Log" "targets" "[I"]
def wsX5_add_r4 : List Cond := [Cond.fieldLink RX2 24 "EntryMasters$Log" "contents" "[I", Cond.fieldLink RX2 27 "EntryMasters$Log" "classesOfAdded" "[I", Cond.static yX5_put, Cond.code yX5_put cX5_put 3 none, Cond.methodLink RX5 94 yX4_learn, Cond.instanceMethod yX4_learn, Cond.selects RX4 yX4_learn yX4_learn, Cond.code yX4_learn cX4_learn 3 none, Cond.methodLink RX4 72 yX4_putInOrder, Cond.instanceMethod yX4_putInOrder, Cond.selects RX4 yX4_putInOrder yX4_putInOrder, Cond.code yX4_putInOrder cX4_putInOrder 3 (some .int), Cond.methodLink RX4 79 yX2_stampAt, Cond.instanceMethod yX2_stampAt, Cond.selects RX2 yX2_stampAt yX2_stampAt, Cond.code yX2_stampAt cX2_stampAt 2 (some .int), Cond.methodLink RX4 43 yX4_clear, Cond.instanceMethod yX4_clear, Cond.selects RX4 yX4_clear yX4_clear, Cond.code yX4_clear cX4_clear 2 none, Cond.fieldLink RX4 25 "EntryMasters$Tree" "classesOfEntries" "[I", Cond.fieldLink RX4 28 "EntryMasters$Tree" "values" "[I", Cond.fieldLink RX4 52 "EntryMasters$Tree" "size" "I", Cond.methodLink RX4 46 yJ7_fill_53178]
def wsX5_add_r5 : List Cond := [Cond.static yJ7_fill_53178, Cond.initialized RJ7, Cond.code yJ7_fill_53178 cJ7_fill_53178 4 none, Cond.methodLink RX4 75 yX4_perform, Cond.instanceMethod yX4_perform, Cond.selects RX4 yX4_perform yX4_perform, Cond.code yX4_perform cX4_perform 5 none, Cond.methodLink RX4 101 yX4_performAdding, Cond.instanceMethod yX4_performAdding, Cond.selects RX4 yX4_performAdding yX4_performAdding, Cond.code yX4_performAdding cX4_performAdding 5 none, Cond.methodLink RX4 115 yX4_settle, Cond.instanceMethod yX4_settle, Cond.selects RX4 yX4_settle yX4_settle, Cond.code yX4_settle cX4_settle 4 none, Cond.methodLink RX4 119 yX4_has, Cond.methodLink RX4 130 yX4_childWithLabelLike, Cond.methodLink RX4 105 yX4_performSetting, Cond.instanceMethod yX4_performSetting, Cond.selects RX4 yX4_performSetting yX4_performSetting, Cond.code yX4_performSetting cX4_performSetting 4 none, Cond.methodLink RX4 123 yX4_mayHold, Cond.instanceMethod yX4_mayHold, Cond.selects RX4 yX4_mayHold yX4_mayHold]
def wsX5_add_r6 : List Cond := [Cond.code yX4_mayHold cX4_mayHold 3 (some .boolean), Cond.fieldLink RX4 39 "EntryMasters$Tree" "classes" "LEntryMasters$Classes;", Cond.methodLink RX4 134 yX0_allows, Cond.instanceMethod yX0_allows, Cond.selects RX0 yX0_allows yX0_allows, Cond.initialized RX0, Cond.code yX0_allows cX0_allows 3 (some .boolean), Cond.fieldLink RX0 15 "EntryMasters$Classes" "allowed" "[I", Cond.methodLink RX0 28 yX0_hasBit, Cond.static yX0_hasBit, Cond.code yX0_hasBit cX0_hasBit 2 (some .boolean), Cond.methodLink RX4 109 yX4_performMoving, Cond.instanceMethod yX4_performMoving, Cond.selects RX4 yX4_performMoving yX4_performMoving, Cond.code yX4_performMoving cX4_performMoving 4 none, Cond.methodLink RX4 127 yX4_isAtOrBelow, Cond.instanceMethod yX4_isAtOrBelow, Cond.selects RX4 yX4_isAtOrBelow yX4_isAtOrBelow, Cond.code yX4_isAtOrBelow cX4_isAtOrBelow 5 (some .boolean), Cond.methodLink RX4 145 yX4_parentAt, Cond.instanceMethod yX4_parentAt, Cond.selects RX4 yX4_parentAt yX4_parentAt, Cond.code yX4_parentAt cX4_parentAt 2 (some .int), Cond.methodLink RX4 112 yX4_performDeleting]
def wsX5_add_r7 : List Cond := [Cond.instanceMethod yX4_performDeleting, Cond.selects RX4 yX4_performDeleting yX4_performDeleting, Cond.code yX4_performDeleting cX4_performDeleting 3 none]
def wsX5_add : List Cond := .code yX5_add cX5_add 7 (some .int) :: ((wsX5_add_r1 ++ (wsX5_add_r2 ++ (wsX5_add_r3 ++ (wsX5_add_r4 ++ (wsX5_add_r5 ++ (wsX5_add_r6 ++ wsX5_add_r7)))))) ++ wsX50 ++ wsX20 ++ wsX40 ++ wsX00 ++ (vx_atS RX5 173 "java/lang/IndexOutOfBoundsException" ["java/lang/RuntimeException", "java/lang/Exception"]).filter goodWord ++ (vx_atS RX5 203 "java/lang/IllegalArgumentException" ["java/lang/RuntimeException", "java/lang/Exception"]).filter goodWord ++ (vx_atS RX5 65 "java/lang/IllegalStateException" ["java/lang/RuntimeException", "java/lang/Exception"]).filter goodWord)
def wsX5_set_r1 : List Cond := [Cond.classLink RX5 61 "java/lang/IllegalStateException", Cond.initialized "java/lang/IllegalStateException", Cond.fieldLink RX5 19 "EntryMasters" "log" "LEntryMasters$Log;", Cond.methodLink RX5 71 yX5_treeOf, Cond.instanceMethod yX5_treeOf, Cond.selects RX5 yX5_treeOf yX5_treeOf, Cond.initialized RX5, Cond.code yX5_treeOf cX5_treeOf 2 (some (.object "EntryMasters$Tree")), Cond.fieldLink RX5 28 "EntryMasters" "firstTree" "LEntryMasters$Tree;", Cond.fieldLink RX5 32 "EntryMasters" "secondTree" "LEntryMasters$Tree;", Cond.methodLink RX5 49 yX5_checkIndex, Cond.static yX5_checkIndex, Cond.code yX5_checkIndex cX5_checkIndex 2 none, Cond.classLink RX5 169 "java/lang/IndexOutOfBoundsException", Cond.initialized "java/lang/IndexOutOfBoundsException", Cond.methodLink RX5 75 yX5_checkEntry, Cond.static yX5_checkEntry, Cond.code yX5_checkEntry cX5_checkEntry 2 none, Cond.methodLink RX5 135 yX4_has, Cond.instanceMethod yX4_has, Cond.selects RX4 yX4_has yX4_has, Cond.initialized RX4, Cond.code yX4_has cX4_has 2 (some .boolean), Cond.fieldLink RX4 15 "EntryMasters$Tree" "there" "[Z"]
def wsX5_set_r2 : List Cond := [Cond.methodLink RX5 53 yX5_checkArgument, Cond.static yX5_checkArgument, Cond.code yX5_checkArgument cX5_checkArgument 3 none, Cond.classLink RX5 199 "java/lang/IllegalArgumentException", Cond.initialized "java/lang/IllegalArgumentException", Cond.methodLink RX5 79 yX5_checkRoomForChange, Cond.instanceMethod yX5_checkRoomForChange, Cond.selects RX5 yX5_checkRoomForChange yX5_checkRoomForChange, Cond.code yX5_checkRoomForChange cX5_checkRoomForChange 1 none, Cond.methodLink RX5 98 yX4_mayHold, Cond.instanceMethod yX4_mayHold, Cond.selects RX4 yX4_mayHold yX4_mayHold, Cond.code yX4_mayHold cX4_mayHold 3 (some .boolean), Cond.fieldLink RX4 39 "EntryMasters$Tree" "classes" "LEntryMasters$Classes;", Cond.fieldLink RX4 25 "EntryMasters$Tree" "classesOfEntries" "[I", Cond.static yX5_at, Cond.code yX5_at cX5_at 2 (some .int), Cond.methodLink RX4 134 yX0_allows, Cond.instanceMethod yX0_allows, Cond.selects RX0 yX0_allows yX0_allows, Cond.initialized RX0, Cond.code yX0_allows cX0_allows 3 (some .boolean), Cond.fieldLink RX0 15 "EntryMasters$Classes" "allowed" "[I", Cond.methodLink RX0 28 yX0_hasBit]
def wsX5_set_r3 : List Cond := [Cond.static yX0_hasBit, Cond.code yX0_hasBit cX0_hasBit 2 (some .boolean), Cond.methodLink RX5 104 yX4_valueAt, Cond.instanceMethod yX4_valueAt, Cond.selects RX4 yX4_valueAt yX4_valueAt, Cond.code yX4_valueAt cX4_valueAt 3 (some .int), Cond.fieldLink RX4 28 "EntryMasters$Tree" "values" "[I", Cond.methodLink RX5 86 yX4_stampOfNext, Cond.instanceMethod yX4_stampOfNext, Cond.selects RX4 yX4_stampOfNext yX4_stampOfNext, Cond.code yX4_stampOfNext cX4_stampOfNext 2 (some .int), Cond.fieldLink RX4 55 "EntryMasters$Tree" "knownCount" "I", Cond.fieldLink RX4 35 "EntryMasters$Tree" "log" "LEntryMasters$Log;", Cond.fieldLink RX4 9 "EntryMasters$Tree" "known" "[I", Cond.fieldLink RX4 31 "EntryMasters$Tree" "master" "I", Cond.methodLink RX4 62 yX2_timeAt, Cond.instanceMethod yX2_timeAt, Cond.selects RX2 yX2_timeAt yX2_timeAt, Cond.initialized RX2, Cond.code yX2_timeAt cX2_timeAt 2 (some .int), Cond.fieldLink RX2 15 "EntryMasters$Log" "stamps" "[I", Cond.methodLink RX4 68 yX2_stampFrom, Cond.static yX2_stampFrom, Cond.code yX2_stampFrom cX2_stampFrom 2 (some .int)]
def wsX5_set_r4 : List Cond := [Cond.methodLink RX5 90 yX2_append, Cond.instanceMethod yX2_append, Cond.selects RX2 yX2_append yX2_append, Cond.code yX2_append cX2_append 8 (some .int), Cond.fieldLink RX2 30 "EntryMasters$Log" "count" "I", Cond.fieldLink RX2 9 "EntryMasters$Log" "kinds" "[I", Cond.fieldLink RX2 18 "EntryMasters$Log" "entries" "[I", Cond.fieldLink RX2 21 "EntryMasters$Log" "targets" "[I", Cond.fieldLink RX2 24 "EntryMasters$Log" "contents" "[I", Cond.fieldLink RX2 27 "EntryMasters$Log" "classesOfAdded" "[I", Cond.static yX5_put, Cond.code yX5_put cX5_put 3 none, Cond.methodLink RX5 94 yX4_learn, Cond.instanceMethod yX4_learn, Cond.selects RX4 yX4_learn yX4_learn, Cond.code yX4_learn cX4_learn 3 none, Cond.methodLink RX4 72 yX4_putInOrder, Cond.instanceMethod yX4_putInOrder, Cond.selects RX4 yX4_putInOrder yX4_putInOrder, Cond.code yX4_putInOrder cX4_putInOrder 3 (some .int), Cond.methodLink RX4 79 yX2_stampAt, Cond.instanceMethod yX2_stampAt, Cond.selects RX2 yX2_stampAt yX2_stampAt, Cond.code yX2_stampAt cX2_stampAt 2 (some .int)]
def wsX5_set_r5 : List Cond := [Cond.methodLink RX4 43 yX4_clear, Cond.instanceMethod yX4_clear, Cond.selects RX4 yX4_clear yX4_clear, Cond.code yX4_clear cX4_clear 2 none, Cond.fieldLink RX4 19 "EntryMasters$Tree" "parents" "[I", Cond.fieldLink RX4 22 "EntryMasters$Tree" "labels" "[I", Cond.fieldLink RX4 52 "EntryMasters$Tree" "size" "I", Cond.methodLink RX4 46 yJ7_fill_53178, Cond.static yJ7_fill_53178, Cond.initialized RJ7, Cond.code yJ7_fill_53178 cJ7_fill_53178 4 none, Cond.methodLink RX4 75 yX4_perform, Cond.instanceMethod yX4_perform, Cond.selects RX4 yX4_perform yX4_perform, Cond.code yX4_perform cX4_perform 5 none, Cond.methodLink RX4 101 yX4_performAdding, Cond.instanceMethod yX4_performAdding, Cond.selects RX4 yX4_performAdding yX4_performAdding, Cond.code yX4_performAdding cX4_performAdding 5 none, Cond.methodLink RX4 115 yX4_settle, Cond.instanceMethod yX4_settle, Cond.selects RX4 yX4_settle yX4_settle, Cond.code yX4_settle cX4_settle 4 none, Cond.methodLink RX4 119 yX4_has]
def wsX5_set_r6 : List Cond := [Cond.methodLink RX4 130 yX4_childWithLabelLike, Cond.instanceMethod yX4_childWithLabelLike, Cond.selects RX4 yX4_childWithLabelLike yX4_childWithLabelLike, Cond.code yX4_childWithLabelLike cX4_childWithLabelLike 5 (some .int), Cond.methodLink RX4 148 yX4_areLike, Cond.static yX4_areLike, Cond.code yX4_areLike cX4_areLike 2 (some .boolean), Cond.methodLink RX4 105 yX4_performSetting, Cond.instanceMethod yX4_performSetting, Cond.selects RX4 yX4_performSetting yX4_performSetting, Cond.code yX4_performSetting cX4_performSetting 4 none, Cond.methodLink RX4 123 yX4_mayHold, Cond.methodLink RX4 109 yX4_performMoving, Cond.instanceMethod yX4_performMoving, Cond.selects RX4 yX4_performMoving yX4_performMoving, Cond.code yX4_performMoving cX4_performMoving 4 none, Cond.methodLink RX4 127 yX4_isAtOrBelow, Cond.instanceMethod yX4_isAtOrBelow, Cond.selects RX4 yX4_isAtOrBelow yX4_isAtOrBelow, Cond.code yX4_isAtOrBelow cX4_isAtOrBelow 5 (some .boolean), Cond.methodLink RX4 145 yX4_parentAt, Cond.instanceMethod yX4_parentAt, Cond.selects RX4 yX4_parentAt yX4_parentAt, Cond.code yX4_parentAt cX4_parentAt 2 (some .int)]
def wsX5_set_r7 : List Cond := [Cond.methodLink RX4 112 yX4_performDeleting, Cond.instanceMethod yX4_performDeleting, Cond.selects RX4 yX4_performDeleting yX4_performDeleting, Cond.code yX4_performDeleting cX4_performDeleting 3 none]
def wsX5_set : List Cond := .code yX5_set cX5_set 7 (some .int) :: ((wsX5_set_r1 ++ (wsX5_set_r2 ++ (wsX5_set_r3 ++ (wsX5_set_r4 ++ (wsX5_set_r5 ++ (wsX5_set_r6 ++ wsX5_set_r7)))))) ++ wsX50 ++ wsX40 ++ wsX20 ++ wsX00 ++ (vx_atS RX5 65 "java/lang/IllegalStateException" ["java/lang/RuntimeException", "java/lang/Exception"]).filter goodWord ++ (vx_atS RX5 173 "java/lang/IndexOutOfBoundsException" ["java/lang/RuntimeException", "java/lang/Exception"]).filter goodWord ++ (vx_atS RX5 203 "java/lang/IllegalArgumentException" ["java/lang/RuntimeException", "java/lang/Exception"]).filter goodWord)
def wsX5_checkIsNotFixed : List Cond := .code yX5_checkIsNotFixed cX5_checkIsNotFixed 1 none :: ([.classLink RX5 61 "java/lang/IllegalStateException", .initialized "java/lang/IllegalStateException"] ++ (vx_atS RX5 65 "java/lang/IllegalStateException" ["java/lang/RuntimeException", "java/lang/Exception"]).filter goodWord)
def wsX5_move_r1 : List Cond := [Cond.classLink RX5 61 "java/lang/IllegalStateException", Cond.initialized "java/lang/IllegalStateException", Cond.fieldLink RX5 19 "EntryMasters" "log" "LEntryMasters$Log;", Cond.methodLink RX5 71 yX5_treeOf, Cond.instanceMethod yX5_treeOf, Cond.selects RX5 yX5_treeOf yX5_treeOf, Cond.initialized RX5, Cond.code yX5_treeOf cX5_treeOf 2 (some (.object "EntryMasters$Tree")), Cond.fieldLink RX5 28 "EntryMasters" "firstTree" "LEntryMasters$Tree;", Cond.fieldLink RX5 32 "EntryMasters" "secondTree" "LEntryMasters$Tree;", Cond.methodLink RX5 49 yX5_checkIndex, Cond.static yX5_checkIndex, Cond.code yX5_checkIndex cX5_checkIndex 2 none, Cond.classLink RX5 169 "java/lang/IndexOutOfBoundsException", Cond.initialized "java/lang/IndexOutOfBoundsException", Cond.methodLink RX5 75 yX5_checkEntry, Cond.static yX5_checkEntry, Cond.code yX5_checkEntry cX5_checkEntry 2 none, Cond.methodLink RX5 135 yX4_has, Cond.instanceMethod yX4_has, Cond.selects RX4 yX4_has yX4_has, Cond.initialized RX4, Cond.code yX4_has cX4_has 2 (some .boolean), Cond.fieldLink RX4 15 "EntryMasters$Tree" "there" "[Z"]
def wsX5_move_r2 : List Cond := [Cond.methodLink RX5 53 yX5_checkArgument, Cond.static yX5_checkArgument, Cond.code yX5_checkArgument cX5_checkArgument 3 none, Cond.classLink RX5 199 "java/lang/IllegalArgumentException", Cond.initialized "java/lang/IllegalArgumentException", Cond.methodLink RX5 79 yX5_checkRoomForChange, Cond.instanceMethod yX5_checkRoomForChange, Cond.selects RX5 yX5_checkRoomForChange yX5_checkRoomForChange, Cond.code yX5_checkRoomForChange cX5_checkRoomForChange 1 none, Cond.methodLink RX5 108 yX5_checkIsNotFixed, Cond.static yX5_checkIsNotFixed, Cond.code yX5_checkIsNotFixed cX5_checkIsNotFixed 1 none, Cond.methodLink RX5 111 yX4_isAtOrBelow, Cond.instanceMethod yX4_isAtOrBelow, Cond.selects RX4 yX4_isAtOrBelow yX4_isAtOrBelow, Cond.code yX4_isAtOrBelow cX4_isAtOrBelow 5 (some .boolean), Cond.methodLink RX4 145 yX4_parentAt, Cond.instanceMethod yX4_parentAt, Cond.selects RX4 yX4_parentAt yX4_parentAt, Cond.code yX4_parentAt cX4_parentAt 2 (some .int), Cond.fieldLink RX4 19 "EntryMasters$Tree" "parents" "[I", Cond.static yX5_at, Cond.code yX5_at cX5_at 2 (some .int), Cond.methodLink RX5 82 yX5_checkLabelIsFree]
def wsX5_move_r3 : List Cond := [Cond.static yX5_checkLabelIsFree, Cond.code yX5_checkLabelIsFree cX5_checkLabelIsFree 4 none, Cond.methodLink RX5 144 yX4_childWithLabelLike, Cond.instanceMethod yX4_childWithLabelLike, Cond.selects RX4 yX4_childWithLabelLike yX4_childWithLabelLike, Cond.code yX4_childWithLabelLike cX4_childWithLabelLike 5 (some .int), Cond.fieldLink RX4 22 "EntryMasters$Tree" "labels" "[I", Cond.methodLink RX4 148 yX4_areLike, Cond.static yX4_areLike, Cond.code yX4_areLike cX4_areLike 2 (some .boolean), Cond.methodLink RX5 116 yX4_parentAt, Cond.methodLink RX5 86 yX4_stampOfNext, Cond.instanceMethod yX4_stampOfNext, Cond.selects RX4 yX4_stampOfNext yX4_stampOfNext, Cond.code yX4_stampOfNext cX4_stampOfNext 2 (some .int), Cond.fieldLink RX4 55 "EntryMasters$Tree" "knownCount" "I", Cond.fieldLink RX4 35 "EntryMasters$Tree" "log" "LEntryMasters$Log;", Cond.fieldLink RX4 9 "EntryMasters$Tree" "known" "[I", Cond.fieldLink RX4 31 "EntryMasters$Tree" "master" "I", Cond.methodLink RX4 62 yX2_timeAt, Cond.instanceMethod yX2_timeAt, Cond.selects RX2 yX2_timeAt yX2_timeAt, Cond.initialized RX2, Cond.code yX2_timeAt cX2_timeAt 2 (some .int)]
def wsX5_move_r4 : List Cond := [Cond.fieldLink RX2 15 "EntryMasters$Log" "stamps" "[I", Cond.methodLink RX4 68 yX2_stampFrom, Cond.static yX2_stampFrom, Cond.code yX2_stampFrom cX2_stampFrom 2 (some .int), Cond.methodLink RX5 90 yX2_append, Cond.instanceMethod yX2_append, Cond.selects RX2 yX2_append yX2_append, Cond.code yX2_append cX2_append 8 (some .int), Cond.fieldLink RX2 30 "EntryMasters$Log" "count" "I", Cond.fieldLink RX2 9 "EntryMasters$Log" "kinds" "[I", Cond.fieldLink RX2 18 "EntryMasters$Log" "entries" "[I", Cond.fieldLink RX2 21 "EntryMasters$Log" "targets" "[I", Cond.fieldLink RX2 24 "EntryMasters$Log" "contents" "[I", Cond.fieldLink RX2 27 "EntryMasters$Log" "classesOfAdded" "[I", Cond.static yX5_put, Cond.code yX5_put cX5_put 3 none, Cond.methodLink RX5 94 yX4_learn, Cond.instanceMethod yX4_learn, Cond.selects RX4 yX4_learn yX4_learn, Cond.code yX4_learn cX4_learn 3 none, Cond.methodLink RX4 72 yX4_putInOrder, Cond.instanceMethod yX4_putInOrder, Cond.selects RX4 yX4_putInOrder yX4_putInOrder, Cond.code yX4_putInOrder cX4_putInOrder 3 (some .int)]
def wsX5_move_r5 : List Cond := [Cond.methodLink RX4 79 yX2_stampAt, Cond.instanceMethod yX2_stampAt, Cond.selects RX2 yX2_stampAt yX2_stampAt, Cond.code yX2_stampAt cX2_stampAt 2 (some .int), Cond.methodLink RX4 43 yX4_clear, Cond.instanceMethod yX4_clear, Cond.selects RX4 yX4_clear yX4_clear, Cond.code yX4_clear cX4_clear 2 none, Cond.fieldLink RX4 25 "EntryMasters$Tree" "classesOfEntries" "[I", Cond.fieldLink RX4 28 "EntryMasters$Tree" "values" "[I", Cond.fieldLink RX4 52 "EntryMasters$Tree" "size" "I", Cond.methodLink RX4 46 yJ7_fill_53178, Cond.static yJ7_fill_53178, Cond.initialized RJ7, Cond.code yJ7_fill_53178 cJ7_fill_53178 4 none, Cond.methodLink RX4 75 yX4_perform, Cond.instanceMethod yX4_perform, Cond.selects RX4 yX4_perform yX4_perform, Cond.code yX4_perform cX4_perform 5 none, Cond.methodLink RX4 101 yX4_performAdding, Cond.instanceMethod yX4_performAdding, Cond.selects RX4 yX4_performAdding yX4_performAdding, Cond.code yX4_performAdding cX4_performAdding 5 none, Cond.methodLink RX4 115 yX4_settle]
def wsX5_move_r6 : List Cond := [Cond.instanceMethod yX4_settle, Cond.selects RX4 yX4_settle yX4_settle, Cond.code yX4_settle cX4_settle 4 none, Cond.methodLink RX4 119 yX4_has, Cond.methodLink RX4 130 yX4_childWithLabelLike, Cond.methodLink RX4 105 yX4_performSetting, Cond.instanceMethod yX4_performSetting, Cond.selects RX4 yX4_performSetting yX4_performSetting, Cond.code yX4_performSetting cX4_performSetting 4 none, Cond.methodLink RX4 123 yX4_mayHold, Cond.instanceMethod yX4_mayHold, Cond.selects RX4 yX4_mayHold yX4_mayHold, Cond.code yX4_mayHold cX4_mayHold 3 (some .boolean), Cond.fieldLink RX4 39 "EntryMasters$Tree" "classes" "LEntryMasters$Classes;", Cond.methodLink RX4 134 yX0_allows, Cond.instanceMethod yX0_allows, Cond.selects RX0 yX0_allows yX0_allows, Cond.initialized RX0, Cond.code yX0_allows cX0_allows 3 (some .boolean), Cond.fieldLink RX0 15 "EntryMasters$Classes" "allowed" "[I", Cond.methodLink RX0 28 yX0_hasBit, Cond.static yX0_hasBit, Cond.code yX0_hasBit cX0_hasBit 2 (some .boolean), Cond.methodLink RX4 109 yX4_performMoving]
def wsX5_move_r7 : List Cond := [Cond.instanceMethod yX4_performMoving, Cond.selects RX4 yX4_performMoving yX4_performMoving, Cond.code yX4_performMoving cX4_performMoving 4 none, Cond.methodLink RX4 127 yX4_isAtOrBelow, Cond.methodLink RX4 112 yX4_performDeleting, Cond.instanceMethod yX4_performDeleting, Cond.selects RX4 yX4_performDeleting yX4_performDeleting, Cond.code yX4_performDeleting cX4_performDeleting 3 none]
def wsX5_move : List Cond := .code yX5_move cX5_move 7 (some .int) :: ((wsX5_move_r1 ++ (wsX5_move_r2 ++ (wsX5_move_r3 ++ (wsX5_move_r4 ++ (wsX5_move_r5 ++ (wsX5_move_r6 ++ wsX5_move_r7)))))) ++ wsX50 ++ wsX40 ++ wsX20 ++ wsX00 ++ (vx_atS RX5 65 "java/lang/IllegalStateException" ["java/lang/RuntimeException", "java/lang/Exception"]).filter goodWord ++ (vx_atS RX5 173 "java/lang/IndexOutOfBoundsException" ["java/lang/RuntimeException", "java/lang/Exception"]).filter goodWord ++ (vx_atS RX5 203 "java/lang/IllegalArgumentException" ["java/lang/RuntimeException", "java/lang/Exception"]).filter goodWord)
def wsX5_delete_r1 : List Cond := [Cond.classLink RX5 61 "java/lang/IllegalStateException", Cond.initialized "java/lang/IllegalStateException", Cond.fieldLink RX5 19 "EntryMasters" "log" "LEntryMasters$Log;", Cond.methodLink RX5 71 yX5_treeOf, Cond.instanceMethod yX5_treeOf, Cond.selects RX5 yX5_treeOf yX5_treeOf, Cond.initialized RX5, Cond.code yX5_treeOf cX5_treeOf 2 (some (.object "EntryMasters$Tree")), Cond.fieldLink RX5 28 "EntryMasters" "firstTree" "LEntryMasters$Tree;", Cond.fieldLink RX5 32 "EntryMasters" "secondTree" "LEntryMasters$Tree;", Cond.methodLink RX5 49 yX5_checkIndex, Cond.static yX5_checkIndex, Cond.code yX5_checkIndex cX5_checkIndex 2 none, Cond.classLink RX5 169 "java/lang/IndexOutOfBoundsException", Cond.initialized "java/lang/IndexOutOfBoundsException", Cond.methodLink RX5 75 yX5_checkEntry, Cond.static yX5_checkEntry, Cond.code yX5_checkEntry cX5_checkEntry 2 none, Cond.methodLink RX5 135 yX4_has, Cond.instanceMethod yX4_has, Cond.selects RX4 yX4_has yX4_has, Cond.initialized RX4, Cond.code yX4_has cX4_has 2 (some .boolean), Cond.fieldLink RX4 15 "EntryMasters$Tree" "there" "[Z"]
def wsX5_delete_r2 : List Cond := [Cond.methodLink RX5 79 yX5_checkRoomForChange, Cond.instanceMethod yX5_checkRoomForChange, Cond.selects RX5 yX5_checkRoomForChange yX5_checkRoomForChange, Cond.code yX5_checkRoomForChange cX5_checkRoomForChange 1 none, Cond.methodLink RX5 108 yX5_checkIsNotFixed, Cond.static yX5_checkIsNotFixed, Cond.code yX5_checkIsNotFixed cX5_checkIsNotFixed 1 none, Cond.methodLink RX5 120 yX4_hasChild, Cond.instanceMethod yX4_hasChild, Cond.selects RX4 yX4_hasChild yX4_hasChild, Cond.code yX4_hasChild cX4_hasChild 3 (some .boolean), Cond.fieldLink RX4 19 "EntryMasters$Tree" "parents" "[I", Cond.methodLink RX5 86 yX4_stampOfNext, Cond.instanceMethod yX4_stampOfNext, Cond.selects RX4 yX4_stampOfNext yX4_stampOfNext, Cond.code yX4_stampOfNext cX4_stampOfNext 2 (some .int), Cond.fieldLink RX4 55 "EntryMasters$Tree" "knownCount" "I", Cond.fieldLink RX4 35 "EntryMasters$Tree" "log" "LEntryMasters$Log;", Cond.fieldLink RX4 9 "EntryMasters$Tree" "known" "[I", Cond.fieldLink RX4 31 "EntryMasters$Tree" "master" "I", Cond.static yX5_at, Cond.code yX5_at cX5_at 2 (some .int), Cond.methodLink RX4 62 yX2_timeAt, Cond.instanceMethod yX2_timeAt]
def wsX5_delete_r3 : List Cond := [Cond.selects RX2 yX2_timeAt yX2_timeAt, Cond.initialized RX2, Cond.code yX2_timeAt cX2_timeAt 2 (some .int), Cond.fieldLink RX2 15 "EntryMasters$Log" "stamps" "[I", Cond.methodLink RX4 68 yX2_stampFrom, Cond.static yX2_stampFrom, Cond.code yX2_stampFrom cX2_stampFrom 2 (some .int), Cond.methodLink RX5 90 yX2_append, Cond.instanceMethod yX2_append, Cond.selects RX2 yX2_append yX2_append, Cond.code yX2_append cX2_append 8 (some .int), Cond.fieldLink RX2 30 "EntryMasters$Log" "count" "I", Cond.fieldLink RX2 9 "EntryMasters$Log" "kinds" "[I", Cond.fieldLink RX2 18 "EntryMasters$Log" "entries" "[I", Cond.fieldLink RX2 21 "EntryMasters$Log" "targets" "[I", Cond.fieldLink RX2 24 "EntryMasters$Log" "contents" "[I", Cond.fieldLink RX2 27 "EntryMasters$Log" "classesOfAdded" "[I", Cond.static yX5_put, Cond.code yX5_put cX5_put 3 none, Cond.methodLink RX5 94 yX4_learn, Cond.instanceMethod yX4_learn, Cond.selects RX4 yX4_learn yX4_learn, Cond.code yX4_learn cX4_learn 3 none, Cond.methodLink RX4 72 yX4_putInOrder]
def wsX5_delete_r4 : List Cond := [Cond.instanceMethod yX4_putInOrder, Cond.selects RX4 yX4_putInOrder yX4_putInOrder, Cond.code yX4_putInOrder cX4_putInOrder 3 (some .int), Cond.methodLink RX4 79 yX2_stampAt, Cond.instanceMethod yX2_stampAt, Cond.selects RX2 yX2_stampAt yX2_stampAt, Cond.code yX2_stampAt cX2_stampAt 2 (some .int), Cond.methodLink RX4 43 yX4_clear, Cond.instanceMethod yX4_clear, Cond.selects RX4 yX4_clear yX4_clear, Cond.code yX4_clear cX4_clear 2 none, Cond.fieldLink RX4 22 "EntryMasters$Tree" "labels" "[I", Cond.fieldLink RX4 25 "EntryMasters$Tree" "classesOfEntries" "[I", Cond.fieldLink RX4 28 "EntryMasters$Tree" "values" "[I", Cond.fieldLink RX4 52 "EntryMasters$Tree" "size" "I", Cond.methodLink RX4 46 yJ7_fill_53178, Cond.static yJ7_fill_53178, Cond.initialized RJ7, Cond.code yJ7_fill_53178 cJ7_fill_53178 4 none, Cond.methodLink RX4 75 yX4_perform, Cond.instanceMethod yX4_perform, Cond.selects RX4 yX4_perform yX4_perform, Cond.code yX4_perform cX4_perform 5 none, Cond.methodLink RX4 101 yX4_performAdding]
def wsX5_delete_r5 : List Cond := [Cond.instanceMethod yX4_performAdding, Cond.selects RX4 yX4_performAdding yX4_performAdding, Cond.code yX4_performAdding cX4_performAdding 5 none, Cond.methodLink RX4 115 yX4_settle, Cond.instanceMethod yX4_settle, Cond.selects RX4 yX4_settle yX4_settle, Cond.code yX4_settle cX4_settle 4 none, Cond.methodLink RX4 119 yX4_has, Cond.methodLink RX4 130 yX4_childWithLabelLike, Cond.instanceMethod yX4_childWithLabelLike, Cond.selects RX4 yX4_childWithLabelLike yX4_childWithLabelLike, Cond.code yX4_childWithLabelLike cX4_childWithLabelLike 5 (some .int), Cond.methodLink RX4 148 yX4_areLike, Cond.static yX4_areLike, Cond.code yX4_areLike cX4_areLike 2 (some .boolean), Cond.methodLink RX4 105 yX4_performSetting, Cond.instanceMethod yX4_performSetting, Cond.selects RX4 yX4_performSetting yX4_performSetting, Cond.code yX4_performSetting cX4_performSetting 4 none, Cond.methodLink RX4 123 yX4_mayHold, Cond.instanceMethod yX4_mayHold, Cond.selects RX4 yX4_mayHold yX4_mayHold, Cond.code yX4_mayHold cX4_mayHold 3 (some .boolean), Cond.fieldLink RX4 39 "EntryMasters$Tree" "classes" "LEntryMasters$Classes;"]
def wsX5_delete_r6 : List Cond := [Cond.methodLink RX4 134 yX0_allows, Cond.instanceMethod yX0_allows, Cond.selects RX0 yX0_allows yX0_allows, Cond.initialized RX0, Cond.code yX0_allows cX0_allows 3 (some .boolean), Cond.fieldLink RX0 15 "EntryMasters$Classes" "allowed" "[I", Cond.methodLink RX0 28 yX0_hasBit, Cond.static yX0_hasBit, Cond.code yX0_hasBit cX0_hasBit 2 (some .boolean), Cond.methodLink RX4 109 yX4_performMoving, Cond.instanceMethod yX4_performMoving, Cond.selects RX4 yX4_performMoving yX4_performMoving, Cond.code yX4_performMoving cX4_performMoving 4 none, Cond.methodLink RX4 127 yX4_isAtOrBelow, Cond.instanceMethod yX4_isAtOrBelow, Cond.selects RX4 yX4_isAtOrBelow yX4_isAtOrBelow, Cond.code yX4_isAtOrBelow cX4_isAtOrBelow 5 (some .boolean), Cond.methodLink RX4 145 yX4_parentAt, Cond.instanceMethod yX4_parentAt, Cond.selects RX4 yX4_parentAt yX4_parentAt, Cond.code yX4_parentAt cX4_parentAt 2 (some .int), Cond.methodLink RX4 112 yX4_performDeleting, Cond.instanceMethod yX4_performDeleting, Cond.selects RX4 yX4_performDeleting yX4_performDeleting]
def wsX5_delete_r7 : List Cond := [Cond.code yX4_performDeleting cX4_performDeleting 3 none]
def wsX5_delete : List Cond := .code yX5_delete cX5_delete 4 (some .int) :: ((wsX5_delete_r1 ++ (wsX5_delete_r2 ++ (wsX5_delete_r3 ++ (wsX5_delete_r4 ++ (wsX5_delete_r5 ++ (wsX5_delete_r6 ++ wsX5_delete_r7)))))) ++ wsX50 ++ wsX40 ++ wsX20 ++ wsX00 ++ (vx_atS RX5 65 "java/lang/IllegalStateException" ["java/lang/RuntimeException", "java/lang/Exception"]).filter goodWord ++ (vx_atS RX5 173 "java/lang/IndexOutOfBoundsException" ["java/lang/RuntimeException", "java/lang/Exception"]).filter goodWord)
def wsX5_carry_r1 : List Cond := [Cond.fieldLink RX5 19 "EntryMasters" "log" "LEntryMasters$Log;", Cond.methodLink RX5 49 yX5_checkIndex, Cond.static yX5_checkIndex, Cond.initialized RX5, Cond.code yX5_checkIndex cX5_checkIndex 2 none, Cond.classLink RX5 169 "java/lang/IndexOutOfBoundsException", Cond.initialized "java/lang/IndexOutOfBoundsException", Cond.methodLink RX5 71 yX5_treeOf, Cond.instanceMethod yX5_treeOf, Cond.selects RX5 yX5_treeOf yX5_treeOf, Cond.code yX5_treeOf cX5_treeOf 2 (some (.object "EntryMasters$Tree")), Cond.fieldLink RX5 28 "EntryMasters" "firstTree" "LEntryMasters$Tree;", Cond.fieldLink RX5 32 "EntryMasters" "secondTree" "LEntryMasters$Tree;", Cond.methodLink RX5 129 yX4_knows, Cond.instanceMethod yX4_knows, Cond.selects RX4 yX4_knows yX4_knows, Cond.initialized RX4, Cond.code yX4_knows cX4_knows 3 (some .boolean), Cond.fieldLink RX4 55 "EntryMasters$Tree" "knownCount" "I", Cond.fieldLink RX4 9 "EntryMasters$Tree" "known" "[I", Cond.methodLink RX5 94 yX4_learn, Cond.instanceMethod yX4_learn, Cond.selects RX4 yX4_learn yX4_learn, Cond.code yX4_learn cX4_learn 3 none]
def wsX5_carry_r2 : List Cond := [Cond.methodLink RX4 72 yX4_putInOrder, Cond.instanceMethod yX4_putInOrder, Cond.selects RX4 yX4_putInOrder yX4_putInOrder, Cond.code yX4_putInOrder cX4_putInOrder 3 (some .int), Cond.fieldLink RX4 35 "EntryMasters$Tree" "log" "LEntryMasters$Log;", Cond.static yX5_at, Cond.code yX5_at cX5_at 2 (some .int), Cond.methodLink RX4 79 yX2_stampAt, Cond.instanceMethod yX2_stampAt, Cond.selects RX2 yX2_stampAt yX2_stampAt, Cond.initialized RX2, Cond.code yX2_stampAt cX2_stampAt 2 (some .int), Cond.fieldLink RX2 15 "EntryMasters$Log" "stamps" "[I", Cond.static yX5_put, Cond.code yX5_put cX5_put 3 none, Cond.methodLink RX4 43 yX4_clear, Cond.instanceMethod yX4_clear, Cond.selects RX4 yX4_clear yX4_clear, Cond.code yX4_clear cX4_clear 2 none, Cond.fieldLink RX4 15 "EntryMasters$Tree" "there" "[Z", Cond.fieldLink RX4 19 "EntryMasters$Tree" "parents" "[I", Cond.fieldLink RX4 22 "EntryMasters$Tree" "labels" "[I", Cond.fieldLink RX4 25 "EntryMasters$Tree" "classesOfEntries" "[I", Cond.fieldLink RX4 28 "EntryMasters$Tree" "values" "[I"]
def wsX5_carry_r3 : List Cond := [Cond.fieldLink RX4 52 "EntryMasters$Tree" "size" "I", Cond.methodLink RX4 46 yJ7_fill_53178, Cond.static yJ7_fill_53178, Cond.initialized RJ7, Cond.code yJ7_fill_53178 cJ7_fill_53178 4 none, Cond.methodLink RX4 75 yX4_perform, Cond.instanceMethod yX4_perform, Cond.selects RX4 yX4_perform yX4_perform, Cond.code yX4_perform cX4_perform 5 none, Cond.methodLink RX4 101 yX4_performAdding, Cond.instanceMethod yX4_performAdding, Cond.selects RX4 yX4_performAdding yX4_performAdding, Cond.code yX4_performAdding cX4_performAdding 5 none, Cond.methodLink RX4 115 yX4_settle, Cond.instanceMethod yX4_settle, Cond.selects RX4 yX4_settle yX4_settle, Cond.code yX4_settle cX4_settle 4 none, Cond.methodLink RX4 119 yX4_has, Cond.instanceMethod yX4_has, Cond.selects RX4 yX4_has yX4_has, Cond.code yX4_has cX4_has 2 (some .boolean), Cond.methodLink RX4 130 yX4_childWithLabelLike, Cond.instanceMethod yX4_childWithLabelLike, Cond.selects RX4 yX4_childWithLabelLike yX4_childWithLabelLike]
def wsX5_carry_r4 : List Cond := [Cond.code yX4_childWithLabelLike cX4_childWithLabelLike 5 (some .int), Cond.methodLink RX4 148 yX4_areLike, Cond.static yX4_areLike, Cond.code yX4_areLike cX4_areLike 2 (some .boolean), Cond.methodLink RX4 105 yX4_performSetting, Cond.instanceMethod yX4_performSetting, Cond.selects RX4 yX4_performSetting yX4_performSetting, Cond.code yX4_performSetting cX4_performSetting 4 none, Cond.methodLink RX4 123 yX4_mayHold, Cond.instanceMethod yX4_mayHold, Cond.selects RX4 yX4_mayHold yX4_mayHold, Cond.code yX4_mayHold cX4_mayHold 3 (some .boolean), Cond.fieldLink RX4 39 "EntryMasters$Tree" "classes" "LEntryMasters$Classes;", Cond.methodLink RX4 134 yX0_allows, Cond.instanceMethod yX0_allows, Cond.selects RX0 yX0_allows yX0_allows, Cond.initialized RX0, Cond.code yX0_allows cX0_allows 3 (some .boolean), Cond.fieldLink RX0 15 "EntryMasters$Classes" "allowed" "[I", Cond.methodLink RX0 28 yX0_hasBit, Cond.static yX0_hasBit, Cond.code yX0_hasBit cX0_hasBit 2 (some .boolean), Cond.methodLink RX4 109 yX4_performMoving, Cond.instanceMethod yX4_performMoving]
def wsX5_carry_r5 : List Cond := [Cond.selects RX4 yX4_performMoving yX4_performMoving, Cond.code yX4_performMoving cX4_performMoving 4 none, Cond.methodLink RX4 127 yX4_isAtOrBelow, Cond.instanceMethod yX4_isAtOrBelow, Cond.selects RX4 yX4_isAtOrBelow yX4_isAtOrBelow, Cond.code yX4_isAtOrBelow cX4_isAtOrBelow 5 (some .boolean), Cond.methodLink RX4 145 yX4_parentAt, Cond.instanceMethod yX4_parentAt, Cond.selects RX4 yX4_parentAt yX4_parentAt, Cond.code yX4_parentAt cX4_parentAt 2 (some .int), Cond.methodLink RX4 112 yX4_performDeleting, Cond.instanceMethod yX4_performDeleting, Cond.selects RX4 yX4_performDeleting yX4_performDeleting, Cond.code yX4_performDeleting cX4_performDeleting 3 none]
def wsX5_carry : List Cond := .code yX5_carry cX5_carry 4 (some .boolean) :: ((wsX5_carry_r1 ++ (wsX5_carry_r2 ++ (wsX5_carry_r3 ++ (wsX5_carry_r4 ++ wsX5_carry_r5)))) ++ wsX50 ++ wsX20 ++ wsX40 ++ wsX00 ++ (vx_atS RX5 173 "java/lang/IndexOutOfBoundsException" ["java/lang/RuntimeException", "java/lang/Exception"]).filter goodWord)
def wsX5_changes : List Cond := .code yX5_changes cX5_changes 1 (some .int) :: ([.fieldLink RX5 19 "EntryMasters" "log" "LEntryMasters$Log;"] ++ wsX50 ++ wsX20)
def wsX5_timeOf : List Cond := .code yX5_timeOf cX5_timeOf 2 (some .int) :: ([.fieldLink RX5 19 "EntryMasters" "log" "LEntryMasters$Log;", .methodLink RX5 49 yX5_checkIndex, .static yX5_checkIndex, .initialized RX5, .code yX5_checkIndex cX5_checkIndex 2 none, .classLink RX5 169 "java/lang/IndexOutOfBoundsException", .initialized "java/lang/IndexOutOfBoundsException", .methodLink RX5 132 yX2_timeAt, .instanceMethod yX2_timeAt, .selects RX2 yX2_timeAt yX2_timeAt, .initialized RX2, .code yX2_timeAt cX2_timeAt 2 (some .int), .fieldLink RX2 15 "EntryMasters$Log" "stamps" "[I", .static yX5_at, .code yX5_at cX5_at 2 (some .int)] ++ wsX50 ++ wsX20 ++ (vx_atS RX5 173 "java/lang/IndexOutOfBoundsException" ["java/lang/RuntimeException", "java/lang/Exception"]).filter goodWord)
def wsX5_entries : List Cond := .code yX5_entries cX5_entries 2 (some .int) :: ([.methodLink RX5 71 yX5_treeOf, .instanceMethod yX5_treeOf, .selects RX5 yX5_treeOf yX5_treeOf, .initialized RX5, .code yX5_treeOf cX5_treeOf 2 (some (.object "EntryMasters$Tree")), .fieldLink RX5 28 "EntryMasters" "firstTree" "LEntryMasters$Tree;", .fieldLink RX5 32 "EntryMasters" "secondTree" "LEntryMasters$Tree;", .methodLink RX5 49 yX5_checkIndex, .static yX5_checkIndex, .code yX5_checkIndex cX5_checkIndex 2 none, .classLink RX5 169 "java/lang/IndexOutOfBoundsException", .initialized "java/lang/IndexOutOfBoundsException"] ++ wsX40 ++ wsX50 ++ (vx_atS RX5 173 "java/lang/IndexOutOfBoundsException" ["java/lang/RuntimeException", "java/lang/Exception"]).filter goodWord)
def wsX5_isThere : List Cond := .code yX5_isThere cX5_isThere 3 (some .boolean) :: ([.methodLink RX5 71 yX5_treeOf, .instanceMethod yX5_treeOf, .selects RX5 yX5_treeOf yX5_treeOf, .initialized RX5, .code yX5_treeOf cX5_treeOf 2 (some (.object "EntryMasters$Tree")), .fieldLink RX5 28 "EntryMasters" "firstTree" "LEntryMasters$Tree;", .fieldLink RX5 32 "EntryMasters" "secondTree" "LEntryMasters$Tree;", .methodLink RX5 49 yX5_checkIndex, .static yX5_checkIndex, .code yX5_checkIndex cX5_checkIndex 2 none, .classLink RX5 169 "java/lang/IndexOutOfBoundsException", .initialized "java/lang/IndexOutOfBoundsException", .methodLink RX5 135 yX4_has, .instanceMethod yX4_has, .selects RX4 yX4_has yX4_has, .initialized RX4, .code yX4_has cX4_has 2 (some .boolean), .fieldLink RX4 15 "EntryMasters$Tree" "there" "[Z"] ++ wsX50 ++ wsX40 ++ (vx_atS RX5 173 "java/lang/IndexOutOfBoundsException" ["java/lang/RuntimeException", "java/lang/Exception"]).filter goodWord)
def wsX5_parentOf_r1 : List Cond := [Cond.methodLink RX5 71 yX5_treeOf, Cond.instanceMethod yX5_treeOf, Cond.selects RX5 yX5_treeOf yX5_treeOf, Cond.initialized RX5, Cond.code yX5_treeOf cX5_treeOf 2 (some (.object "EntryMasters$Tree")), Cond.fieldLink RX5 28 "EntryMasters" "firstTree" "LEntryMasters$Tree;", Cond.fieldLink RX5 32 "EntryMasters" "secondTree" "LEntryMasters$Tree;", Cond.methodLink RX5 49 yX5_checkIndex, Cond.static yX5_checkIndex, Cond.code yX5_checkIndex cX5_checkIndex 2 none, Cond.classLink RX5 169 "java/lang/IndexOutOfBoundsException", Cond.initialized "java/lang/IndexOutOfBoundsException", Cond.methodLink RX5 75 yX5_checkEntry, Cond.static yX5_checkEntry, Cond.code yX5_checkEntry cX5_checkEntry 2 none, Cond.methodLink RX5 135 yX4_has, Cond.instanceMethod yX4_has, Cond.selects RX4 yX4_has yX4_has, Cond.initialized RX4, Cond.code yX4_has cX4_has 2 (some .boolean), Cond.fieldLink RX4 15 "EntryMasters$Tree" "there" "[Z", Cond.methodLink RX5 116 yX4_parentAt, Cond.instanceMethod yX4_parentAt, Cond.selects RX4 yX4_parentAt yX4_parentAt]
def wsX5_parentOf_r2 : List Cond := [Cond.code yX4_parentAt cX4_parentAt 2 (some .int), Cond.fieldLink RX4 19 "EntryMasters$Tree" "parents" "[I", Cond.static yX5_at, Cond.code yX5_at cX5_at 2 (some .int)]
def wsX5_parentOf : List Cond := .code yX5_parentOf cX5_parentOf 4 (some .int) :: ((wsX5_parentOf_r1 ++ wsX5_parentOf_r2) ++ wsX50 ++ wsX40 ++ (vx_atS RX5 173 "java/lang/IndexOutOfBoundsException" ["java/lang/RuntimeException", "java/lang/Exception"]).filter goodWord)
def wsX5_labelOf_r1 : List Cond := [Cond.methodLink RX5 71 yX5_treeOf, Cond.instanceMethod yX5_treeOf, Cond.selects RX5 yX5_treeOf yX5_treeOf, Cond.initialized RX5, Cond.code yX5_treeOf cX5_treeOf 2 (some (.object "EntryMasters$Tree")), Cond.fieldLink RX5 28 "EntryMasters" "firstTree" "LEntryMasters$Tree;", Cond.fieldLink RX5 32 "EntryMasters" "secondTree" "LEntryMasters$Tree;", Cond.methodLink RX5 49 yX5_checkIndex, Cond.static yX5_checkIndex, Cond.code yX5_checkIndex cX5_checkIndex 2 none, Cond.classLink RX5 169 "java/lang/IndexOutOfBoundsException", Cond.initialized "java/lang/IndexOutOfBoundsException", Cond.methodLink RX5 75 yX5_checkEntry, Cond.static yX5_checkEntry, Cond.code yX5_checkEntry cX5_checkEntry 2 none, Cond.methodLink RX5 135 yX4_has, Cond.instanceMethod yX4_has, Cond.selects RX4 yX4_has yX4_has, Cond.initialized RX4, Cond.code yX4_has cX4_has 2 (some .boolean), Cond.fieldLink RX4 15 "EntryMasters$Tree" "there" "[Z", Cond.methodLink RX5 138 yX4_labelAt, Cond.instanceMethod yX4_labelAt, Cond.selects RX4 yX4_labelAt yX4_labelAt]
def wsX5_labelOf_r2 : List Cond := [Cond.code yX4_labelAt cX4_labelAt 2 (some .int), Cond.fieldLink RX4 22 "EntryMasters$Tree" "labels" "[I", Cond.static yX5_at, Cond.code yX5_at cX5_at 2 (some .int)]
def wsX5_labelOf : List Cond := .code yX5_labelOf cX5_labelOf 4 (some .int) :: ((wsX5_labelOf_r1 ++ wsX5_labelOf_r2) ++ wsX50 ++ wsX40 ++ (vx_atS RX5 173 "java/lang/IndexOutOfBoundsException" ["java/lang/RuntimeException", "java/lang/Exception"]).filter goodWord)
def wsX5_value_r1 : List Cond := [Cond.methodLink RX5 71 yX5_treeOf, Cond.instanceMethod yX5_treeOf, Cond.selects RX5 yX5_treeOf yX5_treeOf, Cond.initialized RX5, Cond.code yX5_treeOf cX5_treeOf 2 (some (.object "EntryMasters$Tree")), Cond.fieldLink RX5 28 "EntryMasters" "firstTree" "LEntryMasters$Tree;", Cond.fieldLink RX5 32 "EntryMasters" "secondTree" "LEntryMasters$Tree;", Cond.methodLink RX5 49 yX5_checkIndex, Cond.static yX5_checkIndex, Cond.code yX5_checkIndex cX5_checkIndex 2 none, Cond.classLink RX5 169 "java/lang/IndexOutOfBoundsException", Cond.initialized "java/lang/IndexOutOfBoundsException", Cond.methodLink RX5 75 yX5_checkEntry, Cond.static yX5_checkEntry, Cond.code yX5_checkEntry cX5_checkEntry 2 none, Cond.methodLink RX5 135 yX4_has, Cond.instanceMethod yX4_has, Cond.selects RX4 yX4_has yX4_has, Cond.initialized RX4, Cond.code yX4_has cX4_has 2 (some .boolean), Cond.fieldLink RX4 15 "EntryMasters$Tree" "there" "[Z", Cond.methodLink RX5 104 yX4_valueAt, Cond.instanceMethod yX4_valueAt, Cond.selects RX4 yX4_valueAt yX4_valueAt]
def wsX5_value_r2 : List Cond := [Cond.code yX4_valueAt cX4_valueAt 3 (some .int), Cond.fieldLink RX4 28 "EntryMasters$Tree" "values" "[I", Cond.static yX5_at, Cond.code yX5_at cX5_at 2 (some .int)]
def wsX5_value : List Cond := .code yX5_value cX5_value 5 (some .int) :: ((wsX5_value_r1 ++ wsX5_value_r2) ++ wsX50 ++ wsX40 ++ (vx_atS RX5 173 "java/lang/IndexOutOfBoundsException" ["java/lang/RuntimeException", "java/lang/Exception"]).filter goodWord)
def wsX5_isWhole_r1 : List Cond := [Cond.methodLink RX5 71 yX5_treeOf, Cond.instanceMethod yX5_treeOf, Cond.selects RX5 yX5_treeOf yX5_treeOf, Cond.initialized RX5, Cond.code yX5_treeOf cX5_treeOf 2 (some (.object "EntryMasters$Tree")), Cond.fieldLink RX5 28 "EntryMasters" "firstTree" "LEntryMasters$Tree;", Cond.fieldLink RX5 32 "EntryMasters" "secondTree" "LEntryMasters$Tree;", Cond.methodLink RX5 49 yX5_checkIndex, Cond.static yX5_checkIndex, Cond.code yX5_checkIndex cX5_checkIndex 2 none, Cond.classLink RX5 169 "java/lang/IndexOutOfBoundsException", Cond.initialized "java/lang/IndexOutOfBoundsException", Cond.methodLink RX5 75 yX5_checkEntry, Cond.static yX5_checkEntry, Cond.code yX5_checkEntry cX5_checkEntry 2 none, Cond.methodLink RX5 135 yX4_has, Cond.instanceMethod yX4_has, Cond.selects RX4 yX4_has yX4_has, Cond.initialized RX4, Cond.code yX4_has cX4_has 2 (some .boolean), Cond.fieldLink RX4 15 "EntryMasters$Tree" "there" "[Z", Cond.methodLink RX5 141 yX4_hasAllNeeded, Cond.instanceMethod yX4_hasAllNeeded, Cond.selects RX4 yX4_hasAllNeeded yX4_hasAllNeeded]
def wsX5_isWhole_r2 : List Cond := [Cond.code yX4_hasAllNeeded cX4_hasAllNeeded 4 (some .boolean), Cond.fieldLink RX4 25 "EntryMasters$Tree" "classesOfEntries" "[I", Cond.fieldLink RX4 39 "EntryMasters$Tree" "classes" "LEntryMasters$Classes;", Cond.static yX5_at, Cond.code yX5_at cX5_at 2 (some .int), Cond.methodLink RX4 139 yX0_needs, Cond.instanceMethod yX0_needs, Cond.selects RX0 yX0_needs yX0_needs, Cond.initialized RX0, Cond.code yX0_needs cX0_needs 3 (some .boolean), Cond.fieldLink RX0 9 "EntryMasters$Classes" "needed" "[I", Cond.methodLink RX0 28 yX0_hasBit, Cond.static yX0_hasBit, Cond.code yX0_hasBit cX0_hasBit 2 (some .boolean), Cond.methodLink RX4 142 yX4_valueAt, Cond.instanceMethod yX4_valueAt, Cond.selects RX4 yX4_valueAt yX4_valueAt, Cond.code yX4_valueAt cX4_valueAt 3 (some .int), Cond.fieldLink RX4 28 "EntryMasters$Tree" "values" "[I"]
def wsX5_isWhole : List Cond := .code yX5_isWhole cX5_isWhole 4 (some .boolean) :: ((wsX5_isWhole_r1 ++ wsX5_isWhole_r2) ++ wsX50 ++ wsX40 ++ wsX00 ++ (vx_atS RX5 173 "java/lang/IndexOutOfBoundsException" ["java/lang/RuntimeException", "java/lang/Exception"]).filter goodWord)
def wsX5_find_r1 : List Cond := [Cond.methodLink RX5 71 yX5_treeOf, Cond.instanceMethod yX5_treeOf, Cond.selects RX5 yX5_treeOf yX5_treeOf, Cond.initialized RX5, Cond.code yX5_treeOf cX5_treeOf 2 (some (.object "EntryMasters$Tree")), Cond.fieldLink RX5 28 "EntryMasters" "firstTree" "LEntryMasters$Tree;", Cond.fieldLink RX5 32 "EntryMasters" "secondTree" "LEntryMasters$Tree;", Cond.methodLink RX5 49 yX5_checkIndex, Cond.static yX5_checkIndex, Cond.code yX5_checkIndex cX5_checkIndex 2 none, Cond.classLink RX5 169 "java/lang/IndexOutOfBoundsException", Cond.initialized "java/lang/IndexOutOfBoundsException", Cond.methodLink RX5 75 yX5_checkEntry, Cond.static yX5_checkEntry, Cond.code yX5_checkEntry cX5_checkEntry 2 none, Cond.methodLink RX5 135 yX4_has, Cond.instanceMethod yX4_has, Cond.selects RX4 yX4_has yX4_has, Cond.initialized RX4, Cond.code yX4_has cX4_has 2 (some .boolean), Cond.fieldLink RX4 15 "EntryMasters$Tree" "there" "[Z", Cond.methodLink RX5 53 yX5_checkArgument, Cond.static yX5_checkArgument, Cond.code yX5_checkArgument cX5_checkArgument 3 none]
def wsX5_find_r2 : List Cond := [Cond.classLink RX5 199 "java/lang/IllegalArgumentException", Cond.initialized "java/lang/IllegalArgumentException", Cond.methodLink RX5 144 yX4_childWithLabelLike, Cond.instanceMethod yX4_childWithLabelLike, Cond.selects RX4 yX4_childWithLabelLike yX4_childWithLabelLike, Cond.code yX4_childWithLabelLike cX4_childWithLabelLike 5 (some .int), Cond.fieldLink RX4 19 "EntryMasters$Tree" "parents" "[I", Cond.fieldLink RX4 22 "EntryMasters$Tree" "labels" "[I", Cond.methodLink RX4 148 yX4_areLike, Cond.static yX4_areLike, Cond.code yX4_areLike cX4_areLike 2 (some .boolean)]
def wsX5_find : List Cond := .code yX5_find cX5_find 5 (some .int) :: ((wsX5_find_r1 ++ wsX5_find_r2) ++ wsX50 ++ wsX40 ++ (vx_atS RX5 173 "java/lang/IndexOutOfBoundsException" ["java/lang/RuntimeException", "java/lang/Exception"]).filter goodWord ++ (vx_atS RX5 203 "java/lang/IllegalArgumentException" ["java/lang/RuntimeException", "java/lang/Exception"]).filter goodWord)
def wsX5_areAlike_r1 : List Cond := [Cond.fieldLink RX5 28 "EntryMasters" "firstTree" "LEntryMasters$Tree;", Cond.fieldLink RX5 32 "EntryMasters" "secondTree" "LEntryMasters$Tree;", Cond.methodLink RX5 148 yX4_isSameAs, Cond.instanceMethod yX4_isSameAs, Cond.selects RX4 yX4_isSameAs yX4_isSameAs, Cond.initialized RX4, Cond.code yX4_isSameAs cX4_isSameAs 3 (some .boolean), Cond.fieldLink RX4 15 "EntryMasters$Tree" "there" "[Z", Cond.methodLink RX4 151 yX4_hasSameEntry, Cond.instanceMethod yX4_hasSameEntry, Cond.selects RX4 yX4_hasSameEntry yX4_hasSameEntry, Cond.code yX4_hasSameEntry cX4_hasSameEntry 4 (some .boolean), Cond.fieldLink RX4 25 "EntryMasters$Tree" "classesOfEntries" "[I", Cond.methodLink RX4 142 yX4_valueAt, Cond.instanceMethod yX4_valueAt, Cond.selects RX4 yX4_valueAt yX4_valueAt, Cond.code yX4_valueAt cX4_valueAt 3 (some .int), Cond.fieldLink RX4 28 "EntryMasters$Tree" "values" "[I", Cond.static yX5_at, Cond.initialized RX5, Cond.code yX5_at cX5_at 2 (some .int), Cond.methodLink RX4 145 yX4_parentAt, Cond.instanceMethod yX4_parentAt, Cond.selects RX4 yX4_parentAt yX4_parentAt]
def wsX5_areAlike_r2 : List Cond := [Cond.code yX4_parentAt cX4_parentAt 2 (some .int), Cond.fieldLink RX4 19 "EntryMasters$Tree" "parents" "[I", Cond.methodLink RX4 155 yX4_labelAt, Cond.instanceMethod yX4_labelAt, Cond.selects RX4 yX4_labelAt yX4_labelAt, Cond.code yX4_labelAt cX4_labelAt 2 (some .int), Cond.fieldLink RX4 22 "EntryMasters$Tree" "labels" "[I"]
def wsX5_areAlike : List Cond := .code yX5_areAlike cX5_areAlike 1 (some .boolean) :: ((wsX5_areAlike_r1 ++ wsX5_areAlike_r2) ++ wsX50 ++ wsX40)
def wsX5_setRight : List Cond := .code yX5_setRight cX5_setRight 4 none :: ([.fieldLink RX5 38 "EntryMasters" "marks" "LEntryMasters$Marks;", .methodLink RX5 49 yX5_checkIndex, .static yX5_checkIndex, .initialized RX5, .code yX5_checkIndex cX5_checkIndex 2 none, .classLink RX5 169 "java/lang/IndexOutOfBoundsException", .initialized "java/lang/IndexOutOfBoundsException", .methodLink RX5 53 yX5_checkArgument, .static yX5_checkArgument, .code yX5_checkArgument cX5_checkArgument 3 none, .classLink RX5 199 "java/lang/IllegalArgumentException", .initialized "java/lang/IllegalArgumentException", .methodLink RX5 152 yX3_putRight, .instanceMethod yX3_putRight, .selects RX3 yX3_putRight yX3_putRight, .initialized RX3, .code yX3_putRight cX3_putRight 4 none, .fieldLink RX3 9 "EntryMasters$Marks" "rights" "[I", .static yX5_put, .code yX5_put cX5_put 3 none] ++ wsX50 ++ wsX30 ++ (vx_atS RX5 173 "java/lang/IndexOutOfBoundsException" ["java/lang/RuntimeException", "java/lang/Exception"]).filter goodWord ++ (vx_atS RX5 203 "java/lang/IllegalArgumentException" ["java/lang/RuntimeException", "java/lang/Exception"]).filter goodWord)
def wsX5_refer : List Cond := .code yX5_refer cX5_refer 3 none :: ([.fieldLink RX5 38 "EntryMasters" "marks" "LEntryMasters$Marks;", .methodLink RX5 49 yX5_checkIndex, .static yX5_checkIndex, .initialized RX5, .code yX5_checkIndex cX5_checkIndex 2 none, .classLink RX5 169 "java/lang/IndexOutOfBoundsException", .initialized "java/lang/IndexOutOfBoundsException", .methodLink RX5 155 yX3_putReferral, .instanceMethod yX3_putReferral, .selects RX3 yX3_putReferral yX3_putReferral, .initialized RX3, .code yX3_putReferral cX3_putReferral 3 none, .fieldLink RX3 15 "EntryMasters$Marks" "referrals" "[Z"] ++ wsX50 ++ wsX30 ++ (vx_atS RX5 173 "java/lang/IndexOutOfBoundsException" ["java/lang/RuntimeException", "java/lang/Exception"]).filter goodWord)
def wsX5_checkRoomForFilter : List Cond := .code yX5_checkRoomForFilter cX5_checkRoomForFilter 1 none :: ([.classLink RX5 61 "java/lang/IllegalStateException", .initialized "java/lang/IllegalStateException", .fieldLink RX5 45 "EntryMasters" "filters" "LEntryMasters$Filters;"] ++ wsX50 ++ wsX10 ++ (vx_atS RX5 65 "java/lang/IllegalStateException" ["java/lang/RuntimeException", "java/lang/Exception"]).filter goodWord)
def wsX5_test : List Cond := .code yX5_test cX5_test 4 (some .int) :: ([.fieldLink RX5 45 "EntryMasters" "filters" "LEntryMasters$Filters;", .methodLink RX5 53 yX5_checkArgument, .static yX5_checkArgument, .initialized RX5, .code yX5_checkArgument cX5_checkArgument 3 none, .classLink RX5 199 "java/lang/IllegalArgumentException", .initialized "java/lang/IllegalArgumentException", .methodLink RX5 159 yX5_checkRoomForFilter, .instanceMethod yX5_checkRoomForFilter, .selects RX5 yX5_checkRoomForFilter yX5_checkRoomForFilter, .code yX5_checkRoomForFilter cX5_checkRoomForFilter 1 none, .classLink RX5 61 "java/lang/IllegalStateException", .initialized "java/lang/IllegalStateException", .methodLink RX5 162 yX1_append, .instanceMethod yX1_append, .selects RX1 yX1_append yX1_append, .initialized RX1, .code yX1_append cX1_append 5 (some .int), .fieldLink RX1 24 "EntryMasters$Filters" "count" "I", .fieldLink RX1 9 "EntryMasters$Filters" "kinds" "[I", .fieldLink RX1 15 "EntryMasters$Filters" "firsts" "[I", .fieldLink RX1 18 "EntryMasters$Filters" "seconds" "[I", .static yX5_put, .code yX5_put cX5_put 3 none] ++ wsX50 ++ wsX10 ++ (vx_atS RX5 203 "java/lang/IllegalArgumentException" ["java/lang/RuntimeException", "java/lang/Exception"]).filter goodWord ++ (vx_atS RX5 65 "java/lang/IllegalStateException" ["java/lang/RuntimeException", "java/lang/Exception"]).filter goodWord)
def wsX5_join_r1 : List Cond := [Cond.fieldLink RX5 45 "EntryMasters" "filters" "LEntryMasters$Filters;", Cond.methodLink RX5 49 yX5_checkIndex, Cond.static yX5_checkIndex, Cond.initialized RX5, Cond.code yX5_checkIndex cX5_checkIndex 2 none, Cond.classLink RX5 169 "java/lang/IndexOutOfBoundsException", Cond.initialized "java/lang/IndexOutOfBoundsException", Cond.methodLink RX5 53 yX5_checkArgument, Cond.static yX5_checkArgument, Cond.code yX5_checkArgument cX5_checkArgument 3 none, Cond.classLink RX5 199 "java/lang/IllegalArgumentException", Cond.initialized "java/lang/IllegalArgumentException", Cond.methodLink RX5 159 yX5_checkRoomForFilter, Cond.instanceMethod yX5_checkRoomForFilter, Cond.selects RX5 yX5_checkRoomForFilter yX5_checkRoomForFilter, Cond.code yX5_checkRoomForFilter cX5_checkRoomForFilter 1 none, Cond.classLink RX5 61 "java/lang/IllegalStateException", Cond.initialized "java/lang/IllegalStateException", Cond.methodLink RX5 162 yX1_append, Cond.instanceMethod yX1_append, Cond.selects RX1 yX1_append yX1_append, Cond.initialized RX1, Cond.code yX1_append cX1_append 5 (some .int), Cond.fieldLink RX1 24 "EntryMasters$Filters" "count" "I"]
def wsX5_join_r2 : List Cond := [Cond.fieldLink RX1 9 "EntryMasters$Filters" "kinds" "[I", Cond.fieldLink RX1 15 "EntryMasters$Filters" "firsts" "[I", Cond.fieldLink RX1 18 "EntryMasters$Filters" "seconds" "[I", Cond.static yX5_put, Cond.code yX5_put cX5_put 3 none]
def wsX5_join : List Cond := .code yX5_join cX5_join 4 (some .int) :: ((wsX5_join_r1 ++ wsX5_join_r2) ++ wsX50 ++ wsX10 ++ (vx_atS RX5 173 "java/lang/IndexOutOfBoundsException" ["java/lang/RuntimeException", "java/lang/Exception"]).filter goodWord ++ (vx_atS RX5 203 "java/lang/IllegalArgumentException" ["java/lang/RuntimeException", "java/lang/Exception"]).filter goodWord ++ (vx_atS RX5 65 "java/lang/IllegalStateException" ["java/lang/RuntimeException", "java/lang/Exception"]).filter goodWord)
def wsX5_holds_r1 : List Cond := [Cond.fieldLink RX5 45 "EntryMasters" "filters" "LEntryMasters$Filters;", Cond.methodLink RX5 71 yX5_treeOf, Cond.instanceMethod yX5_treeOf, Cond.selects RX5 yX5_treeOf yX5_treeOf, Cond.initialized RX5, Cond.code yX5_treeOf cX5_treeOf 2 (some (.object "EntryMasters$Tree")), Cond.fieldLink RX5 28 "EntryMasters" "firstTree" "LEntryMasters$Tree;", Cond.fieldLink RX5 32 "EntryMasters" "secondTree" "LEntryMasters$Tree;", Cond.methodLink RX5 49 yX5_checkIndex, Cond.static yX5_checkIndex, Cond.code yX5_checkIndex cX5_checkIndex 2 none, Cond.classLink RX5 169 "java/lang/IndexOutOfBoundsException", Cond.initialized "java/lang/IndexOutOfBoundsException", Cond.methodLink RX5 75 yX5_checkEntry, Cond.static yX5_checkEntry, Cond.code yX5_checkEntry cX5_checkEntry 2 none, Cond.methodLink RX5 135 yX4_has, Cond.instanceMethod yX4_has, Cond.selects RX4 yX4_has yX4_has, Cond.initialized RX4, Cond.code yX4_has cX4_has 2 (some .boolean), Cond.fieldLink RX4 15 "EntryMasters$Tree" "there" "[Z", Cond.methodLink RX5 165 yX1_truthFor, Cond.instanceMethod yX1_truthFor]
def wsX5_holds_r2 : List Cond := [Cond.selects RX1 yX1_truthFor yX1_truthFor, Cond.initialized RX1, Cond.code yX1_truthFor cX1_truthFor 8 (some .int), Cond.fieldLink RX1 9 "EntryMasters$Filters" "kinds" "[I", Cond.fieldLink RX1 15 "EntryMasters$Filters" "firsts" "[I", Cond.fieldLink RX1 18 "EntryMasters$Filters" "seconds" "[I", Cond.fieldLink RX1 21 "EntryMasters$Filters" "truths" "[I", Cond.methodLink RX1 32 yX1_truthOfTest, Cond.static yX1_truthOfTest, Cond.code yX1_truthOfTest cX1_truthOfTest 6 (some .int), Cond.methodLink RX1 44 yX4_mayHold, Cond.instanceMethod yX4_mayHold, Cond.selects RX4 yX4_mayHold yX4_mayHold, Cond.code yX4_mayHold cX4_mayHold 3 (some .boolean), Cond.fieldLink RX4 39 "EntryMasters$Tree" "classes" "LEntryMasters$Classes;", Cond.fieldLink RX4 25 "EntryMasters$Tree" "classesOfEntries" "[I", Cond.static yX5_at, Cond.code yX5_at cX5_at 2 (some .int), Cond.methodLink RX4 134 yX0_allows, Cond.instanceMethod yX0_allows, Cond.selects RX0 yX0_allows yX0_allows, Cond.initialized RX0, Cond.code yX0_allows cX0_allows 3 (some .boolean), Cond.fieldLink RX0 15 "EntryMasters$Classes" "allowed" "[I"]
def wsX5_holds_r3 : List Cond := [Cond.methodLink RX0 28 yX0_hasBit, Cond.static yX0_hasBit, Cond.code yX0_hasBit cX0_hasBit 2 (some .boolean), Cond.methodLink RX1 50 yX4_valueAt, Cond.instanceMethod yX4_valueAt, Cond.selects RX4 yX4_valueAt yX4_valueAt, Cond.code yX4_valueAt cX4_valueAt 3 (some .int), Cond.fieldLink RX4 28 "EntryMasters$Tree" "values" "[I", Cond.methodLink RX1 40 yX1_truthOfJoin, Cond.static yX1_truthOfJoin, Cond.code yX1_truthOfJoin cX1_truthOfJoin 3 (some .int), Cond.methodLink RX1 54 yX1_both, Cond.static yX1_both, Cond.code yX1_both cX1_both 2 (some .int), Cond.methodLink RX1 57 yX1_opposite, Cond.static yX1_opposite, Cond.code yX1_opposite cX1_opposite 1 (some .int)]
def wsX5_holds : List Cond := .code yX5_holds cX5_holds 5 (some .int) :: ((wsX5_holds_r1 ++ (wsX5_holds_r2 ++ wsX5_holds_r3)) ++ wsX50 ++ wsX10 ++ wsX40 ++ wsX00 ++ (vx_atS RX5 173 "java/lang/IndexOutOfBoundsException" ["java/lang/RuntimeException", "java/lang/Exception"]).filter goodWord)
def wsX5_isFound_r1 : List Cond := [Cond.fieldLink RX5 45 "EntryMasters" "filters" "LEntryMasters$Filters;", Cond.fieldLink RX5 38 "EntryMasters" "marks" "LEntryMasters$Marks;", Cond.methodLink RX5 165 yX1_truthFor, Cond.instanceMethod yX1_truthFor, Cond.selects RX1 yX1_truthFor yX1_truthFor, Cond.initialized RX1, Cond.code yX1_truthFor cX1_truthFor 8 (some .int), Cond.fieldLink RX1 9 "EntryMasters$Filters" "kinds" "[I", Cond.fieldLink RX1 15 "EntryMasters$Filters" "firsts" "[I", Cond.fieldLink RX1 18 "EntryMasters$Filters" "seconds" "[I", Cond.fieldLink RX1 21 "EntryMasters$Filters" "truths" "[I", Cond.methodLink RX1 32 yX1_truthOfTest, Cond.static yX1_truthOfTest, Cond.code yX1_truthOfTest cX1_truthOfTest 6 (some .int), Cond.methodLink RX1 44 yX4_mayHold, Cond.instanceMethod yX4_mayHold, Cond.selects RX4 yX4_mayHold yX4_mayHold, Cond.initialized RX4, Cond.code yX4_mayHold cX4_mayHold 3 (some .boolean), Cond.fieldLink RX4 39 "EntryMasters$Tree" "classes" "LEntryMasters$Classes;", Cond.fieldLink RX4 25 "EntryMasters$Tree" "classesOfEntries" "[I", Cond.static yX5_at, Cond.initialized RX5, Cond.code yX5_at cX5_at 2 (some .int)]
def wsX5_isFound_r2 : List Cond := [Cond.methodLink RX4 134 yX0_allows, Cond.instanceMethod yX0_allows, Cond.selects RX0 yX0_allows yX0_allows, Cond.initialized RX0, Cond.code yX0_allows cX0_allows 3 (some .boolean), Cond.fieldLink RX0 15 "EntryMasters$Classes" "allowed" "[I", Cond.methodLink RX0 28 yX0_hasBit, Cond.static yX0_hasBit, Cond.code yX0_hasBit cX0_hasBit 2 (some .boolean), Cond.methodLink RX1 50 yX4_valueAt, Cond.instanceMethod yX4_valueAt, Cond.selects RX4 yX4_valueAt yX4_valueAt, Cond.code yX4_valueAt cX4_valueAt 3 (some .int), Cond.fieldLink RX4 28 "EntryMasters$Tree" "values" "[I", Cond.methodLink RX1 40 yX1_truthOfJoin, Cond.static yX1_truthOfJoin, Cond.code yX1_truthOfJoin cX1_truthOfJoin 3 (some .int), Cond.methodLink RX1 54 yX1_both, Cond.static yX1_both, Cond.code yX1_both cX1_both 2 (some .int), Cond.methodLink RX1 57 yX1_opposite, Cond.static yX1_opposite, Cond.code yX1_opposite cX1_opposite 1 (some .int), Cond.methodLink RX5 186 yX3_rightThatCounts]
def wsX5_isFound_r3 : List Cond := [Cond.instanceMethod yX3_rightThatCounts, Cond.selects RX3 yX3_rightThatCounts yX3_rightThatCounts, Cond.initialized RX3, Cond.code yX3_rightThatCounts cX3_rightThatCounts 7 (some .int), Cond.fieldLink RX3 9 "EntryMasters$Marks" "rights" "[I", Cond.methodLink RX3 33 yX4_parentAt, Cond.instanceMethod yX4_parentAt, Cond.selects RX4 yX4_parentAt yX4_parentAt, Cond.code yX4_parentAt cX4_parentAt 2 (some .int), Cond.fieldLink RX4 19 "EntryMasters$Tree" "parents" "[I"]
def wsX5_isFound : List Cond := .code yX5_isFound cX5_isFound 5 (some .boolean) :: ((wsX5_isFound_r1 ++ (wsX5_isFound_r2 ++ wsX5_isFound_r3)) ++ wsX50 ++ wsX10 ++ wsX40 ++ wsX00 ++ wsX30)
def wsX5_nextInScope_r1 : List Cond := [Cond.fieldLink RX5 38 "EntryMasters" "marks" "LEntryMasters$Marks;", Cond.methodLink RX5 189 yX4_orderUnderParent, Cond.instanceMethod yX4_orderUnderParent, Cond.selects RX4 yX4_orderUnderParent yX4_orderUnderParent, Cond.initialized RX4, Cond.code yX4_orderUnderParent cX4_orderUnderParent 3 (some .int), Cond.methodLink RX4 155 yX4_labelAt, Cond.instanceMethod yX4_labelAt, Cond.selects RX4 yX4_labelAt yX4_labelAt, Cond.code yX4_labelAt cX4_labelAt 2 (some .int), Cond.fieldLink RX4 22 "EntryMasters$Tree" "labels" "[I", Cond.static yX5_at, Cond.initialized RX5, Cond.code yX5_at cX5_at 2 (some .int), Cond.methodLink RX5 174 yX4_childAfter, Cond.instanceMethod yX4_childAfter, Cond.selects RX4 yX4_childAfter yX4_childAfter, Cond.code yX4_childAfter cX4_childAfter 6 (some .int), Cond.fieldLink RX4 19 "EntryMasters$Tree" "parents" "[I", Cond.methodLink RX4 158 yX3_isReferral, Cond.instanceMethod yX3_isReferral, Cond.selects RX3 yX3_isReferral yX3_isReferral, Cond.initialized RX3, Cond.code yX3_isReferral cX3_isReferral 2 (some .boolean)]
def wsX5_nextInScope_r2 : List Cond := [Cond.fieldLink RX3 15 "EntryMasters$Marks" "referrals" "[Z", Cond.methodLink RX4 163 yX4_orderUnderParent, Cond.methodLink RX5 192 yX4_entryAfter, Cond.instanceMethod yX4_entryAfter, Cond.selects RX4 yX4_entryAfter yX4_entryAfter, Cond.code yX4_entryAfter cX4_entryAfter 8 (some .int), Cond.methodLink RX4 166 yX4_childAfter, Cond.methodLink RX4 145 yX4_parentAt, Cond.instanceMethod yX4_parentAt, Cond.selects RX4 yX4_parentAt yX4_parentAt, Cond.code yX4_parentAt cX4_parentAt 2 (some .int)]
def wsX5_nextInScope : List Cond := .code yX5_nextInScope cX5_nextInScope 5 (some .int) :: ((wsX5_nextInScope_r1 ++ wsX5_nextInScope_r2) ++ wsX50 ++ wsX40 ++ wsX30)
def wsX5_search_r1 : List Cond := [Cond.classLink RX5 169 "java/lang/IndexOutOfBoundsException", Cond.initialized "java/lang/IndexOutOfBoundsException", Cond.fieldLink RX5 45 "EntryMasters" "filters" "LEntryMasters$Filters;", Cond.fieldLink RX5 38 "EntryMasters" "marks" "LEntryMasters$Marks;", Cond.methodLink RX5 71 yX5_treeOf, Cond.instanceMethod yX5_treeOf, Cond.selects RX5 yX5_treeOf yX5_treeOf, Cond.initialized RX5, Cond.code yX5_treeOf cX5_treeOf 2 (some (.object "EntryMasters$Tree")), Cond.fieldLink RX5 28 "EntryMasters" "firstTree" "LEntryMasters$Tree;", Cond.fieldLink RX5 32 "EntryMasters" "secondTree" "LEntryMasters$Tree;", Cond.methodLink RX5 49 yX5_checkIndex, Cond.static yX5_checkIndex, Cond.code yX5_checkIndex cX5_checkIndex 2 none, Cond.methodLink RX5 75 yX5_checkEntry, Cond.static yX5_checkEntry, Cond.code yX5_checkEntry cX5_checkEntry 2 none, Cond.methodLink RX5 135 yX4_has, Cond.instanceMethod yX4_has, Cond.selects RX4 yX4_has yX4_has, Cond.initialized RX4, Cond.code yX4_has cX4_has 2 (some .boolean), Cond.fieldLink RX4 15 "EntryMasters$Tree" "there" "[Z", Cond.methodLink RX5 53 yX5_checkArgument]
def wsX5_search_r2 : List Cond := [Cond.static yX5_checkArgument, Cond.code yX5_checkArgument cX5_checkArgument 3 none, Cond.classLink RX5 199 "java/lang/IllegalArgumentException", Cond.initialized "java/lang/IllegalArgumentException", Cond.methodLink RX5 174 yX4_childAfter, Cond.instanceMethod yX4_childAfter, Cond.selects RX4 yX4_childAfter yX4_childAfter, Cond.code yX4_childAfter cX4_childAfter 6 (some .int), Cond.fieldLink RX4 19 "EntryMasters$Tree" "parents" "[I", Cond.methodLink RX4 158 yX3_isReferral, Cond.instanceMethod yX3_isReferral, Cond.selects RX3 yX3_isReferral yX3_isReferral, Cond.initialized RX3, Cond.code yX3_isReferral cX3_isReferral 2 (some .boolean), Cond.fieldLink RX3 15 "EntryMasters$Marks" "referrals" "[Z", Cond.methodLink RX4 163 yX4_orderUnderParent, Cond.instanceMethod yX4_orderUnderParent, Cond.selects RX4 yX4_orderUnderParent yX4_orderUnderParent, Cond.code yX4_orderUnderParent cX4_orderUnderParent 3 (some .int), Cond.methodLink RX4 155 yX4_labelAt, Cond.instanceMethod yX4_labelAt, Cond.selects RX4 yX4_labelAt yX4_labelAt, Cond.code yX4_labelAt cX4_labelAt 2 (some .int), Cond.fieldLink RX4 22 "EntryMasters$Tree" "labels" "[I"]
def wsX5_search_r3 : List Cond := [Cond.static yX5_at, Cond.code yX5_at cX5_at 2 (some .int), Cond.methodLink RX5 178 yX5_isFound, Cond.instanceMethod yX5_isFound, Cond.selects RX5 yX5_isFound yX5_isFound, Cond.code yX5_isFound cX5_isFound 5 (some .boolean), Cond.methodLink RX5 165 yX1_truthFor, Cond.instanceMethod yX1_truthFor, Cond.selects RX1 yX1_truthFor yX1_truthFor, Cond.initialized RX1, Cond.code yX1_truthFor cX1_truthFor 8 (some .int), Cond.fieldLink RX1 9 "EntryMasters$Filters" "kinds" "[I", Cond.fieldLink RX1 15 "EntryMasters$Filters" "firsts" "[I", Cond.fieldLink RX1 18 "EntryMasters$Filters" "seconds" "[I", Cond.fieldLink RX1 21 "EntryMasters$Filters" "truths" "[I", Cond.methodLink RX1 32 yX1_truthOfTest, Cond.static yX1_truthOfTest, Cond.code yX1_truthOfTest cX1_truthOfTest 6 (some .int), Cond.methodLink RX1 44 yX4_mayHold, Cond.instanceMethod yX4_mayHold, Cond.selects RX4 yX4_mayHold yX4_mayHold, Cond.code yX4_mayHold cX4_mayHold 3 (some .boolean), Cond.fieldLink RX4 39 "EntryMasters$Tree" "classes" "LEntryMasters$Classes;", Cond.fieldLink RX4 25 "EntryMasters$Tree" "classesOfEntries" "[I"]
def wsX5_search_r4 : List Cond := [Cond.methodLink RX4 134 yX0_allows, Cond.instanceMethod yX0_allows, Cond.selects RX0 yX0_allows yX0_allows, Cond.initialized RX0, Cond.code yX0_allows cX0_allows 3 (some .boolean), Cond.fieldLink RX0 15 "EntryMasters$Classes" "allowed" "[I", Cond.methodLink RX0 28 yX0_hasBit, Cond.static yX0_hasBit, Cond.code yX0_hasBit cX0_hasBit 2 (some .boolean), Cond.methodLink RX1 50 yX4_valueAt, Cond.instanceMethod yX4_valueAt, Cond.selects RX4 yX4_valueAt yX4_valueAt, Cond.code yX4_valueAt cX4_valueAt 3 (some .int), Cond.fieldLink RX4 28 "EntryMasters$Tree" "values" "[I", Cond.methodLink RX1 40 yX1_truthOfJoin, Cond.static yX1_truthOfJoin, Cond.code yX1_truthOfJoin cX1_truthOfJoin 3 (some .int), Cond.methodLink RX1 54 yX1_both, Cond.static yX1_both, Cond.code yX1_both cX1_both 2 (some .int), Cond.methodLink RX1 57 yX1_opposite, Cond.static yX1_opposite, Cond.code yX1_opposite cX1_opposite 1 (some .int), Cond.methodLink RX5 186 yX3_rightThatCounts]
def wsX5_search_r5 : List Cond := [Cond.instanceMethod yX3_rightThatCounts, Cond.selects RX3 yX3_rightThatCounts yX3_rightThatCounts, Cond.code yX3_rightThatCounts cX3_rightThatCounts 7 (some .int), Cond.fieldLink RX3 9 "EntryMasters$Marks" "rights" "[I", Cond.methodLink RX3 33 yX4_parentAt, Cond.instanceMethod yX4_parentAt, Cond.selects RX4 yX4_parentAt yX4_parentAt, Cond.code yX4_parentAt cX4_parentAt 2 (some .int), Cond.methodLink RX5 182 yX5_nextInScope, Cond.instanceMethod yX5_nextInScope, Cond.selects RX5 yX5_nextInScope yX5_nextInScope, Cond.code yX5_nextInScope cX5_nextInScope 5 (some .int), Cond.methodLink RX5 189 yX4_orderUnderParent, Cond.methodLink RX5 192 yX4_entryAfter, Cond.instanceMethod yX4_entryAfter, Cond.selects RX4 yX4_entryAfter yX4_entryAfter, Cond.code yX4_entryAfter cX4_entryAfter 8 (some .int), Cond.methodLink RX4 166 yX4_childAfter, Cond.methodLink RX4 145 yX4_parentAt]
def wsX5_search : List Cond := .code yX5_search cX5_search 11 (some .int) :: ((wsX5_search_r1 ++ (wsX5_search_r2 ++ (wsX5_search_r3 ++ (wsX5_search_r4 ++ wsX5_search_r5)))) ++ wsX50 ++ wsX10 ++ wsX40 ++ wsX30 ++ wsX00 ++ (vx_atS RX5 173 "java/lang/IndexOutOfBoundsException" ["java/lang/RuntimeException", "java/lang/Exception"]).filter goodWord ++ (vx_atS RX5 203 "java/lang/IllegalArgumentException" ["java/lang/RuntimeException", "java/lang/Exception"]).filter goodWord)
abbrev vwCl : List vw_C := [(RX0, TX0, 2), (RX1, TX1, 5), (RX2, TX2, 7), (RX3, TX3, 2), (RX4, TX4, 11), (RX5, TX5, 6)]
end
section
set_option maxRecDepth 20000 in
theorem ggX0_init_J7_fill_53178 : GoodIn wsX0_init wsJ7_fill_53178 := goodIn_r _ [10] (by decide +kernel) (by decide +kernel)
set_option maxRecDepth 20000 in
theorem gX0_init_J7_fill_53178 : GoodIn wsX0_init (va_wsS RX0 18 yJ7_fill_53178 wsJ7_fill_53178) := goodIn_app (goodIn_of _ (by decide +kernel)) ggX0_init_J7_fill_53178
theorem dX0_init_0 : decode cX0_init 0 = .ok (.aload_n 0, 1) := by decide +kernel
theorem dX0_init_1 : decode cX0_init 1 = .ok (.invokespecial 3, 3) := by decide +kernel
theorem dX0_init_4 : decode cX0_init 4 = .ok (.aload_n 0, 1) := by decide +kernel
theorem dX0_init_5 : decode cX0_init 5 = .ok (.iconst 3, 1) := by decide +kernel
theorem dX0_init_6 : decode cX0_init 6 = .ok (.newarray .int, 2) := by decide +kernel
theorem dX0_init_8 : decode cX0_init 8 = .ok (.putfield 9, 3) := by decide +kernel
theorem dX0_init_11 : decode cX0_init 11 = .ok (.aload_n 0, 1) := by decide +kernel
theorem dX0_init_12 : decode cX0_init 12 = .ok (.iconst 3, 1) := by decide +kernel
theorem dX0_init_13 : decode cX0_init 13 = .ok (.newarray .int, 2) := by decide +kernel
theorem dX0_init_15 : decode cX0_init 15 = .ok (.putfield 15, 3) := by decide +kernel
theorem dX0_init_18 : decode cX0_init 18 = .ok (.aload_n 0, 1) := by decide +kernel
theorem dX0_init_19 : decode cX0_init 19 = .ok (.getfield 15, 3) := by decide +kernel
theorem dX0_init_22 : decode cX0_init 22 = .ok (.bipush 15, 2) := by decide +kernel
theorem dX0_init_24 : decode cX0_init 24 = .ok (.invokestatic 18, 3) := by decide +kernel
theorem dX0_init_27 : decode cX0_init 27 = .ok (.return_, 1) := by decide +kernel
set_option maxRecDepth 20000 in
theorem ggX0_define_X5_put : GoodIn wsX0_define wsX5_put := goodIn_r _ [5] (by decide +kernel) (by decide +kernel)
set_option maxRecDepth 20000 in
theorem gX0_define_X5_put_n24 : GoodIn wsX0_define (wsX5_put) := ggX0_define_X5_put
theorem dX0_define_0 : decode cX0_define 0 = .ok (.aload_n 0, 1) := by decide +kernel
theorem dX0_define_1 : decode cX0_define 1 = .ok (.getfield 9, 3) := by decide +kernel
theorem dX0_define_4 : decode cX0_define 4 = .ok (.iload_n 1, 1) := by decide +kernel
theorem dX0_define_5 : decode cX0_define 5 = .ok (.iload_n 2, 1) := by decide +kernel
theorem dX0_define_6 : decode cX0_define 6 = .ok (.invokestatic 24, 3) := by decide +kernel
theorem dX0_define_9 : decode cX0_define 9 = .ok (.aload_n 0, 1) := by decide +kernel
theorem dX0_define_10 : decode cX0_define 10 = .ok (.getfield 15, 3) := by decide +kernel
theorem dX0_define_13 : decode cX0_define 13 = .ok (.iload_n 1, 1) := by decide +kernel
theorem dX0_define_14 : decode cX0_define 14 = .ok (.iload_n 3, 1) := by decide +kernel
theorem dX0_define_15 : decode cX0_define 15 = .ok (.iload_n 2, 1) := by decide +kernel
theorem dX0_define_16 : decode cX0_define 16 = .ok (.ior, 1) := by decide +kernel
theorem dX0_define_17 : decode cX0_define 17 = .ok (.invokestatic 24, 3) := by decide +kernel
theorem dX0_define_20 : decode cX0_define 20 = .ok (.return_, 1) := by decide +kernel
set_option maxRecDepth 20000 in
theorem ggX0_needs_X0_hasBit : GoodIn wsX0_needs wsX0_hasBit := goodIn_r _ [5] (by decide +kernel) (by decide +kernel)
set_option maxRecDepth 20000 in
theorem gX0_needs_X0_hasBit : GoodIn wsX0_needs (va_wsS RX0 28 yX0_hasBit wsX0_hasBit) := goodIn_app (goodIn_of _ (by decide +kernel)) ggX0_needs_X0_hasBit
theorem dX0_needs_0 : decode cX0_needs 0 = .ok (.iload_n 1, 1) := by decide +kernel
theorem dX0_needs_1 : decode cX0_needs 1 = .ok (.ifCond .lt 25, 3) := by decide +kernel
theorem dX0_needs_4 : decode cX0_needs 4 = .ok (.iload_n 1, 1) := by decide +kernel
theorem dX0_needs_5 : decode cX0_needs 5 = .ok (.iconst 3, 1) := by decide +kernel
theorem dX0_needs_6 : decode cX0_needs 6 = .ok (.if_icmp .ge 20, 3) := by decide +kernel
theorem dX0_needs_9 : decode cX0_needs 9 = .ok (.aload_n 0, 1) := by decide +kernel
theorem dX0_needs_10 : decode cX0_needs 10 = .ok (.getfield 9, 3) := by decide +kernel
theorem dX0_needs_13 : decode cX0_needs 13 = .ok (.iload_n 1, 1) := by decide +kernel
theorem dX0_needs_14 : decode cX0_needs 14 = .ok (.iaload, 1) := by decide +kernel
theorem dX0_needs_15 : decode cX0_needs 15 = .ok (.iload_n 2, 1) := by decide +kernel
theorem dX0_needs_16 : decode cX0_needs 16 = .ok (.invokestatic 28, 3) := by decide +kernel
theorem dX0_needs_19 : decode cX0_needs 19 = .ok (.ifCond .eq 7, 3) := by decide +kernel
theorem dX0_needs_22 : decode cX0_needs 22 = .ok (.iconst 1, 1) := by decide +kernel
theorem dX0_needs_23 : decode cX0_needs 23 = .ok (.goto 4, 3) := by decide +kernel
theorem dX0_needs_26 : decode cX0_needs 26 = .ok (.iconst 0, 1) := by decide +kernel
theorem dX0_needs_27 : decode cX0_needs 27 = .ok (.ireturn, 1) := by decide +kernel
set_option maxRecDepth 20000 in
theorem ggX0_allows_X0_hasBit : GoodIn wsX0_allows wsX0_hasBit := goodIn_r _ [5] (by decide +kernel) (by decide +kernel)
set_option maxRecDepth 20000 in
theorem gX0_allows_X0_hasBit : GoodIn wsX0_allows (va_wsS RX0 28 yX0_hasBit wsX0_hasBit) := goodIn_app (goodIn_of _ (by decide +kernel)) ggX0_allows_X0_hasBit
theorem dX0_allows_0 : decode cX0_allows 0 = .ok (.iload_n 1, 1) := by decide +kernel
theorem dX0_allows_1 : decode cX0_allows 1 = .ok (.ifCond .lt 25, 3) := by decide +kernel
theorem dX0_allows_4 : decode cX0_allows 4 = .ok (.iload_n 1, 1) := by decide +kernel
theorem dX0_allows_5 : decode cX0_allows 5 = .ok (.iconst 3, 1) := by decide +kernel
theorem dX0_allows_6 : decode cX0_allows 6 = .ok (.if_icmp .ge 20, 3) := by decide +kernel
theorem dX0_allows_9 : decode cX0_allows 9 = .ok (.aload_n 0, 1) := by decide +kernel
theorem dX0_allows_10 : decode cX0_allows 10 = .ok (.getfield 15, 3) := by decide +kernel
theorem dX0_allows_13 : decode cX0_allows 13 = .ok (.iload_n 1, 1) := by decide +kernel
theorem dX0_allows_14 : decode cX0_allows 14 = .ok (.iaload, 1) := by decide +kernel
theorem dX0_allows_15 : decode cX0_allows 15 = .ok (.iload_n 2, 1) := by decide +kernel
theorem dX0_allows_16 : decode cX0_allows 16 = .ok (.invokestatic 28, 3) := by decide +kernel
theorem dX0_allows_19 : decode cX0_allows 19 = .ok (.ifCond .eq 7, 3) := by decide +kernel
theorem dX0_allows_22 : decode cX0_allows 22 = .ok (.iconst 1, 1) := by decide +kernel
theorem dX0_allows_23 : decode cX0_allows 23 = .ok (.goto 4, 3) := by decide +kernel
theorem dX0_allows_26 : decode cX0_allows 26 = .ok (.iconst 0, 1) := by decide +kernel
theorem dX0_allows_27 : decode cX0_allows 27 = .ok (.ireturn, 1) := by decide +kernel
theorem dX0_hasBit_0 : decode cX0_hasBit 0 = .ok (.iload_n 0, 1) := by decide +kernel
theorem dX0_hasBit_1 : decode cX0_hasBit 1 = .ok (.iload_n 1, 1) := by decide +kernel
theorem dX0_hasBit_2 : decode cX0_hasBit 2 = .ok (.ishr, 1) := by decide +kernel
theorem dX0_hasBit_3 : decode cX0_hasBit 3 = .ok (.iconst 1, 1) := by decide +kernel
theorem dX0_hasBit_4 : decode cX0_hasBit 4 = .ok (.iand, 1) := by decide +kernel
theorem dX0_hasBit_5 : decode cX0_hasBit 5 = .ok (.iconst 1, 1) := by decide +kernel
theorem dX0_hasBit_6 : decode cX0_hasBit 6 = .ok (.if_icmp .ne 7, 3) := by decide +kernel
theorem dX0_hasBit_9 : decode cX0_hasBit 9 = .ok (.iconst 1, 1) := by decide +kernel
theorem dX0_hasBit_10 : decode cX0_hasBit 10 = .ok (.goto 4, 3) := by decide +kernel
theorem dX0_hasBit_13 : decode cX0_hasBit 13 = .ok (.iconst 0, 1) := by decide +kernel
theorem dX0_hasBit_14 : decode cX0_hasBit 14 = .ok (.ireturn, 1) := by decide +kernel
theorem dX1_init_0 : decode cX1_init 0 = .ok (.aload_n 0, 1) := by decide +kernel
theorem dX1_init_1 : decode cX1_init 1 = .ok (.invokespecial 3, 3) := by decide +kernel
theorem dX1_init_4 : decode cX1_init 4 = .ok (.aload_n 0, 1) := by decide +kernel
theorem dX1_init_5 : decode cX1_init 5 = .ok (.bipush 20, 2) := by decide +kernel
theorem dX1_init_7 : decode cX1_init 7 = .ok (.newarray .int, 2) := by decide +kernel
theorem dX1_init_9 : decode cX1_init 9 = .ok (.putfield 9, 3) := by decide +kernel
theorem dX1_init_12 : decode cX1_init 12 = .ok (.aload_n 0, 1) := by decide +kernel
theorem dX1_init_13 : decode cX1_init 13 = .ok (.bipush 20, 2) := by decide +kernel
theorem dX1_init_15 : decode cX1_init 15 = .ok (.newarray .int, 2) := by decide +kernel
theorem dX1_init_17 : decode cX1_init 17 = .ok (.putfield 15, 3) := by decide +kernel
theorem dX1_init_20 : decode cX1_init 20 = .ok (.aload_n 0, 1) := by decide +kernel
theorem dX1_init_21 : decode cX1_init 21 = .ok (.bipush 20, 2) := by decide +kernel
theorem dX1_init_23 : decode cX1_init 23 = .ok (.newarray .int, 2) := by decide +kernel
theorem dX1_init_25 : decode cX1_init 25 = .ok (.putfield 18, 3) := by decide +kernel
theorem dX1_init_28 : decode cX1_init 28 = .ok (.aload_n 0, 1) := by decide +kernel
theorem dX1_init_29 : decode cX1_init 29 = .ok (.bipush 20, 2) := by decide +kernel
theorem dX1_init_31 : decode cX1_init 31 = .ok (.newarray .int, 2) := by decide +kernel
theorem dX1_init_33 : decode cX1_init 33 = .ok (.putfield 21, 3) := by decide +kernel
theorem dX1_init_36 : decode cX1_init 36 = .ok (.return_, 1) := by decide +kernel
set_option maxRecDepth 20000 in
theorem ggX1_append_X5_put : GoodIn wsX1_append wsX5_put := goodIn_r _ [7] (by decide +kernel) (by decide +kernel)
set_option maxRecDepth 20000 in
theorem gX1_append_X5_put_n28 : GoodIn wsX1_append (wsX5_put) := ggX1_append_X5_put
theorem dX1_append_0 : decode cX1_append 0 = .ok (.aload_n 0, 1) := by decide +kernel
theorem dX1_append_1 : decode cX1_append 1 = .ok (.getfield 24, 3) := by decide +kernel
theorem dX1_append_4 : decode cX1_append 4 = .ok (.istore 4, 2) := by decide +kernel
theorem dX1_append_6 : decode cX1_append 6 = .ok (.aload_n 0, 1) := by decide +kernel
theorem dX1_append_7 : decode cX1_append 7 = .ok (.getfield 9, 3) := by decide +kernel
theorem dX1_append_10 : decode cX1_append 10 = .ok (.iload 4, 2) := by decide +kernel
theorem dX1_append_12 : decode cX1_append 12 = .ok (.iload_n 1, 1) := by decide +kernel
theorem dX1_append_13 : decode cX1_append 13 = .ok (.invokestatic 28, 3) := by decide +kernel
theorem dX1_append_16 : decode cX1_append 16 = .ok (.aload_n 0, 1) := by decide +kernel
theorem dX1_append_17 : decode cX1_append 17 = .ok (.getfield 15, 3) := by decide +kernel
theorem dX1_append_20 : decode cX1_append 20 = .ok (.iload 4, 2) := by decide +kernel
theorem dX1_append_22 : decode cX1_append 22 = .ok (.iload_n 2, 1) := by decide +kernel
theorem dX1_append_23 : decode cX1_append 23 = .ok (.invokestatic 28, 3) := by decide +kernel
theorem dX1_append_26 : decode cX1_append 26 = .ok (.aload_n 0, 1) := by decide +kernel
theorem dX1_append_27 : decode cX1_append 27 = .ok (.getfield 18, 3) := by decide +kernel
theorem dX1_append_30 : decode cX1_append 30 = .ok (.iload 4, 2) := by decide +kernel
theorem dX1_append_32 : decode cX1_append 32 = .ok (.iload_n 3, 1) := by decide +kernel
theorem dX1_append_33 : decode cX1_append 33 = .ok (.invokestatic 28, 3) := by decide +kernel
theorem dX1_append_36 : decode cX1_append 36 = .ok (.aload_n 0, 1) := by decide +kernel
theorem dX1_append_37 : decode cX1_append 37 = .ok (.dup, 1) := by decide +kernel
theorem dX1_append_38 : decode cX1_append 38 = .ok (.getfield 24, 3) := by decide +kernel
theorem dX1_append_41 : decode cX1_append 41 = .ok (.iconst 1, 1) := by decide +kernel
theorem dX1_append_42 : decode cX1_append 42 = .ok (.iadd, 1) := by decide +kernel
theorem dX1_append_43 : decode cX1_append 43 = .ok (.putfield 24, 3) := by decide +kernel
theorem dX1_append_46 : decode cX1_append 46 = .ok (.iload 4, 2) := by decide +kernel
theorem dX1_append_48 : decode cX1_append 48 = .ok (.ireturn, 1) := by decide +kernel
set_option maxRecDepth 20000 in
theorem ggX1_truthFor_X1_truthOfTest : GoodIn wsX1_truthFor wsX1_truthOfTest := goodIn_r _ [8, 9, 10, 11, 12, 13, 14, 15, 16, 17, 18, 19, 20, 21, 22, 23, 24, 25, 26, 27, 28, 29, 30, 31, 32, 47, 48, 49, 50, 51, 52, 53, 54, 55, 56, 57, 58, 59] (by decide +kernel) (by decide +kernel)
set_option maxRecDepth 20000 in
theorem gX1_truthFor_X1_truthOfTest : GoodIn wsX1_truthFor (va_wsS RX1 32 yX1_truthOfTest wsX1_truthOfTest) := goodIn_app (goodIn_of _ (by decide +kernel)) ggX1_truthFor_X1_truthOfTest
set_option maxRecDepth 20000 in
theorem ggX1_truthFor_X5_at : GoodIn wsX1_truthFor wsX5_at := goodIn_r _ [18] (by decide +kernel) (by decide +kernel)
set_option maxRecDepth 20000 in
theorem gX1_truthFor_X5_at_n36 : GoodIn wsX1_truthFor (wsX5_at) := ggX1_truthFor_X5_at
set_option maxRecDepth 20000 in
theorem ggX1_truthFor_X1_truthOfJoin : GoodIn wsX1_truthFor wsX1_truthOfJoin := goodIn_r _ [35, 36, 37, 7, 38, 39, 40, 41] (by decide +kernel) (by decide +kernel)
set_option maxRecDepth 20000 in
theorem gX1_truthFor_X1_truthOfJoin : GoodIn wsX1_truthFor (va_wsS RX1 40 yX1_truthOfJoin wsX1_truthOfJoin) := goodIn_app (goodIn_of _ (by decide +kernel)) ggX1_truthFor_X1_truthOfJoin
theorem dX1_truthFor_0 : decode cX1_truthFor 0 = .ok (.iconst 0, 1) := by decide +kernel
theorem dX1_truthFor_1 : decode cX1_truthFor 1 = .ok (.istore 4, 2) := by decide +kernel
theorem dX1_truthFor_3 : decode cX1_truthFor 3 = .ok (.iload 4, 2) := by decide +kernel
theorem dX1_truthFor_5 : decode cX1_truthFor 5 = .ok (.iload_n 1, 1) := by decide +kernel
theorem dX1_truthFor_6 : decode cX1_truthFor 6 = .ok (.if_icmp .gt 93, 3) := by decide +kernel
theorem dX1_truthFor_9 : decode cX1_truthFor 9 = .ok (.iload 4, 2) := by decide +kernel
theorem dX1_truthFor_11 : decode cX1_truthFor 11 = .ok (.bipush 20, 2) := by decide +kernel
theorem dX1_truthFor_13 : decode cX1_truthFor 13 = .ok (.if_icmp .ge 86, 3) := by decide +kernel
theorem dX1_truthFor_16 : decode cX1_truthFor 16 = .ok (.aload_n 0, 1) := by decide +kernel
theorem dX1_truthFor_17 : decode cX1_truthFor 17 = .ok (.getfield 9, 3) := by decide +kernel
theorem dX1_truthFor_20 : decode cX1_truthFor 20 = .ok (.iload 4, 2) := by decide +kernel
theorem dX1_truthFor_22 : decode cX1_truthFor 22 = .ok (.iaload, 1) := by decide +kernel
theorem dX1_truthFor_23 : decode cX1_truthFor 23 = .ok (.istore 5, 2) := by decide +kernel
theorem dX1_truthFor_25 : decode cX1_truthFor 25 = .ok (.aload_n 0, 1) := by decide +kernel
theorem dX1_truthFor_26 : decode cX1_truthFor 26 = .ok (.getfield 15, 3) := by decide +kernel
theorem dX1_truthFor_29 : decode cX1_truthFor 29 = .ok (.iload 4, 2) := by decide +kernel
theorem dX1_truthFor_31 : decode cX1_truthFor 31 = .ok (.iaload, 1) := by decide +kernel
theorem dX1_truthFor_32 : decode cX1_truthFor 32 = .ok (.istore 6, 2) := by decide +kernel
theorem dX1_truthFor_34 : decode cX1_truthFor 34 = .ok (.aload_n 0, 1) := by decide +kernel
theorem dX1_truthFor_35 : decode cX1_truthFor 35 = .ok (.getfield 18, 3) := by decide +kernel
theorem dX1_truthFor_38 : decode cX1_truthFor 38 = .ok (.iload 4, 2) := by decide +kernel
theorem dX1_truthFor_40 : decode cX1_truthFor 40 = .ok (.iaload, 1) := by decide +kernel
theorem dX1_truthFor_41 : decode cX1_truthFor 41 = .ok (.istore 7, 2) := by decide +kernel
theorem dX1_truthFor_43 : decode cX1_truthFor 43 = .ok (.aload_n 0, 1) := by decide +kernel
theorem dX1_truthFor_44 : decode cX1_truthFor 44 = .ok (.getfield 21, 3) := by decide +kernel
theorem dX1_truthFor_47 : decode cX1_truthFor 47 = .ok (.iload 4, 2) := by decide +kernel
theorem dX1_truthFor_49 : decode cX1_truthFor 49 = .ok (.iload 5, 2) := by decide +kernel
theorem dX1_truthFor_51 : decode cX1_truthFor 51 = .ok (.iconst 3, 1) := by decide +kernel
theorem dX1_truthFor_52 : decode cX1_truthFor 52 = .ok (.if_icmp .ge 17, 3) := by decide +kernel
theorem dX1_truthFor_55 : decode cX1_truthFor 55 = .ok (.iload 5, 2) := by decide +kernel
theorem dX1_truthFor_57 : decode cX1_truthFor 57 = .ok (.iload 6, 2) := by decide +kernel
theorem dX1_truthFor_59 : decode cX1_truthFor 59 = .ok (.iload 7, 2) := by decide +kernel
theorem dX1_truthFor_61 : decode cX1_truthFor 61 = .ok (.aload_n 2, 1) := by decide +kernel
theorem dX1_truthFor_62 : decode cX1_truthFor 62 = .ok (.iload_n 3, 1) := by decide +kernel
theorem dX1_truthFor_63 : decode cX1_truthFor 63 = .ok (.invokestatic 32, 3) := by decide +kernel
theorem dX1_truthFor_66 : decode cX1_truthFor 66 = .ok (.goto 26, 3) := by decide +kernel
theorem dX1_truthFor_69 : decode cX1_truthFor 69 = .ok (.iload 5, 2) := by decide +kernel
theorem dX1_truthFor_71 : decode cX1_truthFor 71 = .ok (.aload_n 0, 1) := by decide +kernel
theorem dX1_truthFor_72 : decode cX1_truthFor 72 = .ok (.getfield 21, 3) := by decide +kernel
theorem dX1_truthFor_75 : decode cX1_truthFor 75 = .ok (.iload 6, 2) := by decide +kernel
theorem dX1_truthFor_77 : decode cX1_truthFor 77 = .ok (.invokestatic 36, 3) := by decide +kernel
theorem dX1_truthFor_80 : decode cX1_truthFor 80 = .ok (.aload_n 0, 1) := by decide +kernel
theorem dX1_truthFor_81 : decode cX1_truthFor 81 = .ok (.getfield 21, 3) := by decide +kernel
theorem dX1_truthFor_84 : decode cX1_truthFor 84 = .ok (.iload 7, 2) := by decide +kernel
theorem dX1_truthFor_86 : decode cX1_truthFor 86 = .ok (.invokestatic 36, 3) := by decide +kernel
theorem dX1_truthFor_89 : decode cX1_truthFor 89 = .ok (.invokestatic 40, 3) := by decide +kernel
theorem dX1_truthFor_92 : decode cX1_truthFor 92 = .ok (.iastore, 1) := by decide +kernel
theorem dX1_truthFor_93 : decode cX1_truthFor 93 = .ok (.iinc 4 1, 3) := by decide +kernel
theorem dX1_truthFor_96 : decode cX1_truthFor 96 = .ok (.goto (-93), 3) := by decide +kernel
theorem dX1_truthFor_99 : decode cX1_truthFor 99 = .ok (.aload_n 0, 1) := by decide +kernel
theorem dX1_truthFor_100 : decode cX1_truthFor 100 = .ok (.getfield 21, 3) := by decide +kernel
theorem dX1_truthFor_103 : decode cX1_truthFor 103 = .ok (.iload_n 1, 1) := by decide +kernel
theorem dX1_truthFor_104 : decode cX1_truthFor 104 = .ok (.invokestatic 36, 3) := by decide +kernel
theorem dX1_truthFor_107 : decode cX1_truthFor 107 = .ok (.ireturn, 1) := by decide +kernel
set_option maxRecDepth 20000 in
theorem ggX1_truthOfTest_X4_mayHold : GoodIn wsX1_truthOfTest wsX4_mayHold := goodIn_r _ [5, 6, 7, 8, 9, 10, 11, 12, 13, 14, 15, 16, 17, 18, 19, 25, 26, 27, 28, 29, 30, 31, 32, 33, 34, 35, 36, 37] (by decide +kernel) (by decide +kernel)
set_option maxRecDepth 20000 in
theorem gX1_truthOfTest_X4_mayHold : GoodIn wsX1_truthOfTest (wsV RX1 44 RX4 yX4_mayHold wsX4_mayHold) := goodIn_app (goodIn_of _ (by decide +kernel)) ggX1_truthOfTest_X4_mayHold
set_option maxRecDepth 20000 in
theorem ggX1_truthOfTest_X4_valueAt : GoodIn wsX1_truthOfTest wsX4_valueAt := goodIn_r _ [23, 24, 8, 9, 10, 25, 26, 27, 28, 29, 30, 31, 32, 33, 34, 35] (by decide +kernel) (by decide +kernel)
set_option maxRecDepth 20000 in
theorem gX1_truthOfTest_X4_valueAt : GoodIn wsX1_truthOfTest (wsV RX1 50 RX4 yX4_valueAt wsX4_valueAt) := goodIn_app (goodIn_of _ (by decide +kernel)) ggX1_truthOfTest_X4_valueAt
theorem dX1_truthOfTest_0 : decode cX1_truthOfTest 0 = .ok (.aload_n 3, 1) := by decide +kernel
theorem dX1_truthOfTest_1 : decode cX1_truthOfTest 1 = .ok (.iload 4, 2) := by decide +kernel
theorem dX1_truthOfTest_3 : decode cX1_truthOfTest 3 = .ok (.iload_n 1, 1) := by decide +kernel
theorem dX1_truthOfTest_4 : decode cX1_truthOfTest 4 = .ok (.invokevirtual 44, 3) := by decide +kernel
theorem dX1_truthOfTest_7 : decode cX1_truthOfTest 7 = .ok (.ifCond .ne 5, 3) := by decide +kernel
theorem dX1_truthOfTest_10 : decode cX1_truthOfTest 10 = .ok (.iconst (-1), 1) := by decide +kernel
theorem dX1_truthOfTest_11 : decode cX1_truthOfTest 11 = .ok (.ireturn, 1) := by decide +kernel
theorem dX1_truthOfTest_12 : decode cX1_truthOfTest 12 = .ok (.aload_n 3, 1) := by decide +kernel
theorem dX1_truthOfTest_13 : decode cX1_truthOfTest 13 = .ok (.iload 4, 2) := by decide +kernel
theorem dX1_truthOfTest_15 : decode cX1_truthOfTest 15 = .ok (.iload_n 1, 1) := by decide +kernel
theorem dX1_truthOfTest_16 : decode cX1_truthOfTest 16 = .ok (.invokevirtual 50, 3) := by decide +kernel
theorem dX1_truthOfTest_19 : decode cX1_truthOfTest 19 = .ok (.istore 5, 2) := by decide +kernel
theorem dX1_truthOfTest_21 : decode cX1_truthOfTest 21 = .ok (.iload 5, 2) := by decide +kernel
theorem dX1_truthOfTest_23 : decode cX1_truthOfTest 23 = .ok (.iconst (-1), 1) := by decide +kernel
theorem dX1_truthOfTest_24 : decode cX1_truthOfTest 24 = .ok (.if_icmp .ne 5, 3) := by decide +kernel
theorem dX1_truthOfTest_27 : decode cX1_truthOfTest 27 = .ok (.iconst 0, 1) := by decide +kernel
theorem dX1_truthOfTest_28 : decode cX1_truthOfTest 28 = .ok (.ireturn, 1) := by decide +kernel
theorem dX1_truthOfTest_29 : decode cX1_truthOfTest 29 = .ok (.iload_n 0, 1) := by decide +kernel
theorem dX1_truthOfTest_30 : decode cX1_truthOfTest 30 = .ok (.tableswitch 52 0 2 #[26, 28, 40], 26) := by decide +kernel
theorem dX1_truthOfTest_56 : decode cX1_truthOfTest 56 = .ok (.iconst 1, 1) := by decide +kernel
theorem dX1_truthOfTest_57 : decode cX1_truthOfTest 57 = .ok (.ireturn, 1) := by decide +kernel
theorem dX1_truthOfTest_58 : decode cX1_truthOfTest 58 = .ok (.iload 5, 2) := by decide +kernel
theorem dX1_truthOfTest_60 : decode cX1_truthOfTest 60 = .ok (.iload_n 2, 1) := by decide +kernel
theorem dX1_truthOfTest_61 : decode cX1_truthOfTest 61 = .ok (.if_icmp .ne 7, 3) := by decide +kernel
theorem dX1_truthOfTest_64 : decode cX1_truthOfTest 64 = .ok (.iconst 1, 1) := by decide +kernel
theorem dX1_truthOfTest_65 : decode cX1_truthOfTest 65 = .ok (.goto 4, 3) := by decide +kernel
theorem dX1_truthOfTest_68 : decode cX1_truthOfTest 68 = .ok (.iconst 0, 1) := by decide +kernel
theorem dX1_truthOfTest_69 : decode cX1_truthOfTest 69 = .ok (.ireturn, 1) := by decide +kernel
theorem dX1_truthOfTest_70 : decode cX1_truthOfTest 70 = .ok (.iload 5, 2) := by decide +kernel
theorem dX1_truthOfTest_72 : decode cX1_truthOfTest 72 = .ok (.iload_n 2, 1) := by decide +kernel
theorem dX1_truthOfTest_73 : decode cX1_truthOfTest 73 = .ok (.if_icmp .lt 7, 3) := by decide +kernel
theorem dX1_truthOfTest_76 : decode cX1_truthOfTest 76 = .ok (.iconst 1, 1) := by decide +kernel
theorem dX1_truthOfTest_77 : decode cX1_truthOfTest 77 = .ok (.goto 4, 3) := by decide +kernel
theorem dX1_truthOfTest_80 : decode cX1_truthOfTest 80 = .ok (.iconst 0, 1) := by decide +kernel
theorem dX1_truthOfTest_81 : decode cX1_truthOfTest 81 = .ok (.ireturn, 1) := by decide +kernel
theorem dX1_truthOfTest_82 : decode cX1_truthOfTest 82 = .ok (.iconst (-1), 1) := by decide +kernel
theorem dX1_truthOfTest_83 : decode cX1_truthOfTest 83 = .ok (.ireturn, 1) := by decide +kernel
set_option maxRecDepth 20000 in
theorem ggX1_truthOfJoin_X1_both : GoodIn wsX1_truthOfJoin wsX1_both := goodIn_r _ [4] (by decide +kernel) (by decide +kernel)
set_option maxRecDepth 20000 in
theorem gX1_truthOfJoin_X1_both : GoodIn wsX1_truthOfJoin (va_wsS RX1 54 yX1_both wsX1_both) := goodIn_app (goodIn_of _ (by decide +kernel)) ggX1_truthOfJoin_X1_both
set_option maxRecDepth 20000 in
theorem ggX1_truthOfJoin_X1_opposite : GoodIn wsX1_truthOfJoin wsX1_opposite := goodIn_r _ [7] (by decide +kernel) (by decide +kernel)
set_option maxRecDepth 20000 in
theorem gX1_truthOfJoin_X1_opposite : GoodIn wsX1_truthOfJoin (va_wsS RX1 57 yX1_opposite wsX1_opposite) := goodIn_app (goodIn_of _ (by decide +kernel)) ggX1_truthOfJoin_X1_opposite
theorem dX1_truthOfJoin_0 : decode cX1_truthOfJoin 0 = .ok (.iload_n 0, 1) := by decide +kernel
theorem dX1_truthOfJoin_1 : decode cX1_truthOfJoin 1 = .ok (.tableswitch 53 3 5 #[27, 33, 48], 27) := by decide +kernel
theorem dX1_truthOfJoin_28 : decode cX1_truthOfJoin 28 = .ok (.iload_n 1, 1) := by decide +kernel
theorem dX1_truthOfJoin_29 : decode cX1_truthOfJoin 29 = .ok (.iload_n 2, 1) := by decide +kernel
theorem dX1_truthOfJoin_30 : decode cX1_truthOfJoin 30 = .ok (.invokestatic 54, 3) := by decide +kernel
theorem dX1_truthOfJoin_33 : decode cX1_truthOfJoin 33 = .ok (.ireturn, 1) := by decide +kernel
theorem dX1_truthOfJoin_34 : decode cX1_truthOfJoin 34 = .ok (.iload_n 1, 1) := by decide +kernel
theorem dX1_truthOfJoin_35 : decode cX1_truthOfJoin 35 = .ok (.invokestatic 57, 3) := by decide +kernel
theorem dX1_truthOfJoin_38 : decode cX1_truthOfJoin 38 = .ok (.iload_n 2, 1) := by decide +kernel
theorem dX1_truthOfJoin_39 : decode cX1_truthOfJoin 39 = .ok (.invokestatic 57, 3) := by decide +kernel
theorem dX1_truthOfJoin_42 : decode cX1_truthOfJoin 42 = .ok (.invokestatic 54, 3) := by decide +kernel
theorem dX1_truthOfJoin_45 : decode cX1_truthOfJoin 45 = .ok (.invokestatic 57, 3) := by decide +kernel
theorem dX1_truthOfJoin_48 : decode cX1_truthOfJoin 48 = .ok (.ireturn, 1) := by decide +kernel
theorem dX1_truthOfJoin_49 : decode cX1_truthOfJoin 49 = .ok (.iload_n 1, 1) := by decide +kernel
theorem dX1_truthOfJoin_50 : decode cX1_truthOfJoin 50 = .ok (.invokestatic 57, 3) := by decide +kernel
theorem dX1_truthOfJoin_53 : decode cX1_truthOfJoin 53 = .ok (.ireturn, 1) := by decide +kernel
theorem dX1_truthOfJoin_54 : decode cX1_truthOfJoin 54 = .ok (.iconst (-1), 1) := by decide +kernel
theorem dX1_truthOfJoin_55 : decode cX1_truthOfJoin 55 = .ok (.ireturn, 1) := by decide +kernel
theorem dX1_both_0 : decode cX1_both 0 = .ok (.iload_n 0, 1) := by decide +kernel
theorem dX1_both_1 : decode cX1_both 1 = .ok (.ifCond .eq 7, 3) := by decide +kernel
theorem dX1_both_4 : decode cX1_both 4 = .ok (.iload_n 1, 1) := by decide +kernel
theorem dX1_both_5 : decode cX1_both 5 = .ok (.ifCond .ne 5, 3) := by decide +kernel
theorem dX1_both_8 : decode cX1_both 8 = .ok (.iconst 0, 1) := by decide +kernel
theorem dX1_both_9 : decode cX1_both 9 = .ok (.ireturn, 1) := by decide +kernel
theorem dX1_both_10 : decode cX1_both 10 = .ok (.iload_n 0, 1) := by decide +kernel
theorem dX1_both_11 : decode cX1_both 11 = .ok (.iconst (-1), 1) := by decide +kernel
theorem dX1_both_12 : decode cX1_both 12 = .ok (.if_icmp .eq 8, 3) := by decide +kernel
theorem dX1_both_15 : decode cX1_both 15 = .ok (.iload_n 1, 1) := by decide +kernel
theorem dX1_both_16 : decode cX1_both 16 = .ok (.iconst (-1), 1) := by decide +kernel
theorem dX1_both_17 : decode cX1_both 17 = .ok (.if_icmp .ne 7, 3) := by decide +kernel
theorem dX1_both_20 : decode cX1_both 20 = .ok (.iconst (-1), 1) := by decide +kernel
theorem dX1_both_21 : decode cX1_both 21 = .ok (.goto 4, 3) := by decide +kernel
theorem dX1_both_24 : decode cX1_both 24 = .ok (.iconst 1, 1) := by decide +kernel
theorem dX1_both_25 : decode cX1_both 25 = .ok (.ireturn, 1) := by decide +kernel
theorem dX1_opposite_0 : decode cX1_opposite 0 = .ok (.iload_n 0, 1) := by decide +kernel
theorem dX1_opposite_1 : decode cX1_opposite 1 = .ok (.iconst (-1), 1) := by decide +kernel
theorem dX1_opposite_2 : decode cX1_opposite 2 = .ok (.if_icmp .ne 7, 3) := by decide +kernel
theorem dX1_opposite_5 : decode cX1_opposite 5 = .ok (.iconst (-1), 1) := by decide +kernel
theorem dX1_opposite_6 : decode cX1_opposite 6 = .ok (.goto 6, 3) := by decide +kernel
theorem dX1_opposite_9 : decode cX1_opposite 9 = .ok (.iconst 1, 1) := by decide +kernel
theorem dX1_opposite_10 : decode cX1_opposite 10 = .ok (.iload_n 0, 1) := by decide +kernel
theorem dX1_opposite_11 : decode cX1_opposite 11 = .ok (.isub, 1) := by decide +kernel
theorem dX1_opposite_12 : decode cX1_opposite 12 = .ok (.ireturn, 1) := by decide +kernel
theorem dX2_init_0 : decode cX2_init 0 = .ok (.aload_n 0, 1) := by decide +kernel
theorem dX2_init_1 : decode cX2_init 1 = .ok (.invokespecial 3, 3) := by decide +kernel
theorem dX2_init_4 : decode cX2_init 4 = .ok (.aload_n 0, 1) := by decide +kernel
theorem dX2_init_5 : decode cX2_init 5 = .ok (.bipush 40, 2) := by decide +kernel
theorem dX2_init_7 : decode cX2_init 7 = .ok (.newarray .int, 2) := by decide +kernel
theorem dX2_init_9 : decode cX2_init 9 = .ok (.putfield 9, 3) := by decide +kernel
theorem dX2_init_12 : decode cX2_init 12 = .ok (.aload_n 0, 1) := by decide +kernel
theorem dX2_init_13 : decode cX2_init 13 = .ok (.bipush 40, 2) := by decide +kernel
theorem dX2_init_15 : decode cX2_init 15 = .ok (.newarray .int, 2) := by decide +kernel
theorem dX2_init_17 : decode cX2_init 17 = .ok (.putfield 15, 3) := by decide +kernel
theorem dX2_init_20 : decode cX2_init 20 = .ok (.aload_n 0, 1) := by decide +kernel
theorem dX2_init_21 : decode cX2_init 21 = .ok (.bipush 40, 2) := by decide +kernel
theorem dX2_init_23 : decode cX2_init 23 = .ok (.newarray .int, 2) := by decide +kernel
theorem dX2_init_25 : decode cX2_init 25 = .ok (.putfield 18, 3) := by decide +kernel
theorem dX2_init_28 : decode cX2_init 28 = .ok (.aload_n 0, 1) := by decide +kernel
theorem dX2_init_29 : decode cX2_init 29 = .ok (.bipush 40, 2) := by decide +kernel
theorem dX2_init_31 : decode cX2_init 31 = .ok (.newarray .int, 2) := by decide +kernel
theorem dX2_init_33 : decode cX2_init 33 = .ok (.putfield 21, 3) := by decide +kernel
theorem dX2_init_36 : decode cX2_init 36 = .ok (.aload_n 0, 1) := by decide +kernel
theorem dX2_init_37 : decode cX2_init 37 = .ok (.bipush 40, 2) := by decide +kernel
theorem dX2_init_39 : decode cX2_init 39 = .ok (.newarray .int, 2) := by decide +kernel
theorem dX2_init_41 : decode cX2_init 41 = .ok (.putfield 24, 3) := by decide +kernel
theorem dX2_init_44 : decode cX2_init 44 = .ok (.aload_n 0, 1) := by decide +kernel
theorem dX2_init_45 : decode cX2_init 45 = .ok (.bipush 40, 2) := by decide +kernel
theorem dX2_init_47 : decode cX2_init 47 = .ok (.newarray .int, 2) := by decide +kernel
theorem dX2_init_49 : decode cX2_init 49 = .ok (.putfield 27, 3) := by decide +kernel
theorem dX2_init_52 : decode cX2_init 52 = .ok (.return_, 1) := by decide +kernel
set_option maxRecDepth 20000 in
theorem ggX2_append_X5_put : GoodIn wsX2_append wsX5_put := goodIn_r _ [10] (by decide +kernel) (by decide +kernel)
set_option maxRecDepth 20000 in
theorem gX2_append_X5_put_n34 : GoodIn wsX2_append (wsX5_put) := ggX2_append_X5_put
theorem dX2_append_0 : decode cX2_append 0 = .ok (.aload_n 0, 1) := by decide +kernel
theorem dX2_append_1 : decode cX2_append 1 = .ok (.getfield 30, 3) := by decide +kernel
theorem dX2_append_4 : decode cX2_append 4 = .ok (.istore 7, 2) := by decide +kernel
theorem dX2_append_6 : decode cX2_append 6 = .ok (.aload_n 0, 1) := by decide +kernel
theorem dX2_append_7 : decode cX2_append 7 = .ok (.getfield 9, 3) := by decide +kernel
theorem dX2_append_10 : decode cX2_append 10 = .ok (.iload 7, 2) := by decide +kernel
theorem dX2_append_12 : decode cX2_append 12 = .ok (.iload_n 1, 1) := by decide +kernel
theorem dX2_append_13 : decode cX2_append 13 = .ok (.invokestatic 34, 3) := by decide +kernel
theorem dX2_append_16 : decode cX2_append 16 = .ok (.aload_n 0, 1) := by decide +kernel
theorem dX2_append_17 : decode cX2_append 17 = .ok (.getfield 15, 3) := by decide +kernel
theorem dX2_append_20 : decode cX2_append 20 = .ok (.iload 7, 2) := by decide +kernel
theorem dX2_append_22 : decode cX2_append 22 = .ok (.iload_n 2, 1) := by decide +kernel
theorem dX2_append_23 : decode cX2_append 23 = .ok (.invokestatic 34, 3) := by decide +kernel
theorem dX2_append_26 : decode cX2_append 26 = .ok (.aload_n 0, 1) := by decide +kernel
theorem dX2_append_27 : decode cX2_append 27 = .ok (.getfield 18, 3) := by decide +kernel
theorem dX2_append_30 : decode cX2_append 30 = .ok (.iload 7, 2) := by decide +kernel
theorem dX2_append_32 : decode cX2_append 32 = .ok (.iload_n 3, 1) := by decide +kernel
theorem dX2_append_33 : decode cX2_append 33 = .ok (.invokestatic 34, 3) := by decide +kernel
theorem dX2_append_36 : decode cX2_append 36 = .ok (.aload_n 0, 1) := by decide +kernel
theorem dX2_append_37 : decode cX2_append 37 = .ok (.getfield 21, 3) := by decide +kernel
theorem dX2_append_40 : decode cX2_append 40 = .ok (.iload 7, 2) := by decide +kernel
theorem dX2_append_42 : decode cX2_append 42 = .ok (.iload 4, 2) := by decide +kernel
theorem dX2_append_44 : decode cX2_append 44 = .ok (.invokestatic 34, 3) := by decide +kernel
theorem dX2_append_47 : decode cX2_append 47 = .ok (.aload_n 0, 1) := by decide +kernel
theorem dX2_append_48 : decode cX2_append 48 = .ok (.getfield 24, 3) := by decide +kernel
theorem dX2_append_51 : decode cX2_append 51 = .ok (.iload 7, 2) := by decide +kernel
theorem dX2_append_53 : decode cX2_append 53 = .ok (.iload 5, 2) := by decide +kernel
theorem dX2_append_55 : decode cX2_append 55 = .ok (.invokestatic 34, 3) := by decide +kernel
theorem dX2_append_58 : decode cX2_append 58 = .ok (.aload_n 0, 1) := by decide +kernel
theorem dX2_append_59 : decode cX2_append 59 = .ok (.getfield 27, 3) := by decide +kernel
theorem dX2_append_62 : decode cX2_append 62 = .ok (.iload 7, 2) := by decide +kernel
theorem dX2_append_64 : decode cX2_append 64 = .ok (.iload 6, 2) := by decide +kernel
theorem dX2_append_66 : decode cX2_append 66 = .ok (.invokestatic 34, 3) := by decide +kernel
theorem dX2_append_69 : decode cX2_append 69 = .ok (.aload_n 0, 1) := by decide +kernel
theorem dX2_append_70 : decode cX2_append 70 = .ok (.dup, 1) := by decide +kernel
theorem dX2_append_71 : decode cX2_append 71 = .ok (.getfield 30, 3) := by decide +kernel
theorem dX2_append_74 : decode cX2_append 74 = .ok (.iconst 1, 1) := by decide +kernel
theorem dX2_append_75 : decode cX2_append 75 = .ok (.iadd, 1) := by decide +kernel
theorem dX2_append_76 : decode cX2_append 76 = .ok (.putfield 30, 3) := by decide +kernel
theorem dX2_append_79 : decode cX2_append 79 = .ok (.iload 7, 2) := by decide +kernel
theorem dX2_append_81 : decode cX2_append 81 = .ok (.ireturn, 1) := by decide +kernel
theorem dX2_stampFrom_0 : decode cX2_stampFrom 0 = .ok (.iload_n 0, 1) := by decide +kernel
theorem dX2_stampFrom_1 : decode cX2_stampFrom 1 = .ok (.iconst 2, 1) := by decide +kernel
theorem dX2_stampFrom_2 : decode cX2_stampFrom 2 = .ok (.imul, 1) := by decide +kernel
theorem dX2_stampFrom_3 : decode cX2_stampFrom 3 = .ok (.iload_n 1, 1) := by decide +kernel
theorem dX2_stampFrom_4 : decode cX2_stampFrom 4 = .ok (.iadd, 1) := by decide +kernel
theorem dX2_stampFrom_5 : decode cX2_stampFrom 5 = .ok (.ireturn, 1) := by decide +kernel
set_option maxRecDepth 20000 in
theorem ggX2_stampAt_X5_at : GoodIn wsX2_stampAt wsX5_at := goodIn_r _ [4] (by decide +kernel) (by decide +kernel)
set_option maxRecDepth 20000 in
theorem gX2_stampAt_X5_at_n38 : GoodIn wsX2_stampAt (wsX5_at) := ggX2_stampAt_X5_at
theorem dX2_stampAt_0 : decode cX2_stampAt 0 = .ok (.aload_n 0, 1) := by decide +kernel
theorem dX2_stampAt_1 : decode cX2_stampAt 1 = .ok (.getfield 15, 3) := by decide +kernel
theorem dX2_stampAt_4 : decode cX2_stampAt 4 = .ok (.iload_n 1, 1) := by decide +kernel
theorem dX2_stampAt_5 : decode cX2_stampAt 5 = .ok (.invokestatic 38, 3) := by decide +kernel
theorem dX2_stampAt_8 : decode cX2_stampAt 8 = .ok (.ireturn, 1) := by decide +kernel
set_option maxRecDepth 20000 in
theorem ggX2_timeAt_X5_at : GoodIn wsX2_timeAt wsX5_at := goodIn_r _ [4] (by decide +kernel) (by decide +kernel)
set_option maxRecDepth 20000 in
theorem gX2_timeAt_X5_at_n38 : GoodIn wsX2_timeAt (wsX5_at) := ggX2_timeAt_X5_at
theorem dX2_timeAt_0 : decode cX2_timeAt 0 = .ok (.aload_n 0, 1) := by decide +kernel
theorem dX2_timeAt_1 : decode cX2_timeAt 1 = .ok (.getfield 15, 3) := by decide +kernel
theorem dX2_timeAt_4 : decode cX2_timeAt 4 = .ok (.iload_n 1, 1) := by decide +kernel
theorem dX2_timeAt_5 : decode cX2_timeAt 5 = .ok (.invokestatic 38, 3) := by decide +kernel
theorem dX2_timeAt_8 : decode cX2_timeAt 8 = .ok (.iconst 2, 1) := by decide +kernel
theorem dX2_timeAt_9 : decode cX2_timeAt 9 = .ok (.idiv, 1) := by decide +kernel
theorem dX2_timeAt_10 : decode cX2_timeAt 10 = .ok (.ireturn, 1) := by decide +kernel
set_option maxRecDepth 20000 in
theorem ggX3_init_J7_fill_53178 : GoodIn wsX3_init wsJ7_fill_53178 := goodIn_r _ [11] (by decide +kernel) (by decide +kernel)
set_option maxRecDepth 20000 in
theorem gX3_init_J7_fill_53178 : GoodIn wsX3_init (va_wsS RX3 19 yJ7_fill_53178 wsJ7_fill_53178) := goodIn_app (goodIn_of _ (by decide +kernel)) ggX3_init_J7_fill_53178
theorem dX3_init_0 : decode cX3_init 0 = .ok (.aload_n 0, 1) := by decide +kernel
theorem dX3_init_1 : decode cX3_init 1 = .ok (.invokespecial 3, 3) := by decide +kernel
theorem dX3_init_4 : decode cX3_init 4 = .ok (.aload_n 0, 1) := by decide +kernel
theorem dX3_init_5 : decode cX3_init 5 = .ok (.bipush 126, 2) := by decide +kernel
theorem dX3_init_7 : decode cX3_init 7 = .ok (.newarray .int, 2) := by decide +kernel
theorem dX3_init_9 : decode cX3_init 9 = .ok (.putfield 9, 3) := by decide +kernel
theorem dX3_init_12 : decode cX3_init 12 = .ok (.aload_n 0, 1) := by decide +kernel
theorem dX3_init_13 : decode cX3_init 13 = .ok (.bipush 42, 2) := by decide +kernel
theorem dX3_init_15 : decode cX3_init 15 = .ok (.newarray .boolean, 2) := by decide +kernel
theorem dX3_init_17 : decode cX3_init 17 = .ok (.putfield 15, 3) := by decide +kernel
theorem dX3_init_20 : decode cX3_init 20 = .ok (.aload_n 0, 1) := by decide +kernel
theorem dX3_init_21 : decode cX3_init 21 = .ok (.getfield 9, 3) := by decide +kernel
theorem dX3_init_24 : decode cX3_init 24 = .ok (.iconst (-1), 1) := by decide +kernel
theorem dX3_init_25 : decode cX3_init 25 = .ok (.invokestatic 19, 3) := by decide +kernel
theorem dX3_init_28 : decode cX3_init 28 = .ok (.return_, 1) := by decide +kernel
set_option maxRecDepth 20000 in
theorem ggX3_putRight_X5_put : GoodIn wsX3_putRight wsX5_put := goodIn_r _ [4] (by decide +kernel) (by decide +kernel)
set_option maxRecDepth 20000 in
theorem gX3_putRight_X5_put_n25 : GoodIn wsX3_putRight (wsX5_put) := ggX3_putRight_X5_put
theorem dX3_putRight_0 : decode cX3_putRight 0 = .ok (.aload_n 0, 1) := by decide +kernel
theorem dX3_putRight_1 : decode cX3_putRight 1 = .ok (.getfield 9, 3) := by decide +kernel
theorem dX3_putRight_4 : decode cX3_putRight 4 = .ok (.iload_n 1, 1) := by decide +kernel
theorem dX3_putRight_5 : decode cX3_putRight 5 = .ok (.bipush 42, 2) := by decide +kernel
theorem dX3_putRight_7 : decode cX3_putRight 7 = .ok (.imul, 1) := by decide +kernel
theorem dX3_putRight_8 : decode cX3_putRight 8 = .ok (.iload_n 2, 1) := by decide +kernel
theorem dX3_putRight_9 : decode cX3_putRight 9 = .ok (.iadd, 1) := by decide +kernel
theorem dX3_putRight_10 : decode cX3_putRight 10 = .ok (.iload_n 3, 1) := by decide +kernel
theorem dX3_putRight_11 : decode cX3_putRight 11 = .ok (.invokestatic 25, 3) := by decide +kernel
theorem dX3_putRight_14 : decode cX3_putRight 14 = .ok (.return_, 1) := by decide +kernel
theorem dX3_putReferral_0 : decode cX3_putReferral 0 = .ok (.iload_n 1, 1) := by decide +kernel
theorem dX3_putReferral_1 : decode cX3_putReferral 1 = .ok (.ifCond .lt 16, 3) := by decide +kernel
theorem dX3_putReferral_4 : decode cX3_putReferral 4 = .ok (.iload_n 1, 1) := by decide +kernel
theorem dX3_putReferral_5 : decode cX3_putReferral 5 = .ok (.bipush 42, 2) := by decide +kernel
theorem dX3_putReferral_7 : decode cX3_putReferral 7 = .ok (.if_icmp .ge 10, 3) := by decide +kernel
theorem dX3_putReferral_10 : decode cX3_putReferral 10 = .ok (.aload_n 0, 1) := by decide +kernel
theorem dX3_putReferral_11 : decode cX3_putReferral 11 = .ok (.getfield 15, 3) := by decide +kernel
theorem dX3_putReferral_14 : decode cX3_putReferral 14 = .ok (.iload_n 1, 1) := by decide +kernel
theorem dX3_putReferral_15 : decode cX3_putReferral 15 = .ok (.iload_n 2, 1) := by decide +kernel
theorem dX3_putReferral_16 : decode cX3_putReferral 16 = .ok (.bastore, 1) := by decide +kernel
theorem dX3_putReferral_17 : decode cX3_putReferral 17 = .ok (.return_, 1) := by decide +kernel
theorem dX3_isReferral_0 : decode cX3_isReferral 0 = .ok (.iload_n 1, 1) := by decide +kernel
theorem dX3_isReferral_1 : decode cX3_isReferral 1 = .ok (.ifCond .lt 22, 3) := by decide +kernel
theorem dX3_isReferral_4 : decode cX3_isReferral 4 = .ok (.iload_n 1, 1) := by decide +kernel
theorem dX3_isReferral_5 : decode cX3_isReferral 5 = .ok (.bipush 42, 2) := by decide +kernel
theorem dX3_isReferral_7 : decode cX3_isReferral 7 = .ok (.if_icmp .ge 16, 3) := by decide +kernel
theorem dX3_isReferral_10 : decode cX3_isReferral 10 = .ok (.aload_n 0, 1) := by decide +kernel
theorem dX3_isReferral_11 : decode cX3_isReferral 11 = .ok (.getfield 15, 3) := by decide +kernel
theorem dX3_isReferral_14 : decode cX3_isReferral 14 = .ok (.iload_n 1, 1) := by decide +kernel
theorem dX3_isReferral_15 : decode cX3_isReferral 15 = .ok (.baload, 1) := by decide +kernel
theorem dX3_isReferral_16 : decode cX3_isReferral 16 = .ok (.ifCond .eq 7, 3) := by decide +kernel
theorem dX3_isReferral_19 : decode cX3_isReferral 19 = .ok (.iconst 1, 1) := by decide +kernel
theorem dX3_isReferral_20 : decode cX3_isReferral 20 = .ok (.goto 4, 3) := by decide +kernel
theorem dX3_isReferral_23 : decode cX3_isReferral 23 = .ok (.iconst 0, 1) := by decide +kernel
theorem dX3_isReferral_24 : decode cX3_isReferral 24 = .ok (.ireturn, 1) := by decide +kernel
set_option maxRecDepth 20000 in
theorem ggX3_rightThatCounts_X5_at : GoodIn wsX3_rightThatCounts wsX5_at := goodIn_r _ [4] (by decide +kernel) (by decide +kernel)
set_option maxRecDepth 20000 in
theorem gX3_rightThatCounts_X5_at_n29 : GoodIn wsX3_rightThatCounts (wsX5_at) := ggX3_rightThatCounts_X5_at
set_option maxRecDepth 20000 in
theorem ggX3_rightThatCounts_X4_parentAt : GoodIn wsX3_rightThatCounts wsX4_parentAt := goodIn_r _ [9, 10, 2, 3, 4, 13, 14, 15, 16, 17, 18, 19, 20, 21, 22, 23] (by decide +kernel) (by decide +kernel)
set_option maxRecDepth 20000 in
theorem gX3_rightThatCounts_X4_parentAt : GoodIn wsX3_rightThatCounts (wsV RX3 33 RX4 yX4_parentAt wsX4_parentAt) := goodIn_app (goodIn_of _ (by decide +kernel)) ggX3_rightThatCounts_X4_parentAt
theorem dX3_rightThatCounts_0 : decode cX3_rightThatCounts 0 = .ok (.iload_n 3, 1) := by decide +kernel
theorem dX3_rightThatCounts_1 : decode cX3_rightThatCounts 1 = .ok (.istore 4, 2) := by decide +kernel
theorem dX3_rightThatCounts_3 : decode cX3_rightThatCounts 3 = .ok (.iconst 0, 1) := by decide +kernel
theorem dX3_rightThatCounts_4 : decode cX3_rightThatCounts 4 = .ok (.istore 5, 2) := by decide +kernel
theorem dX3_rightThatCounts_6 : decode cX3_rightThatCounts 6 = .ok (.iload 5, 2) := by decide +kernel
theorem dX3_rightThatCounts_8 : decode cX3_rightThatCounts 8 = .ok (.bipush 42, 2) := by decide +kernel
theorem dX3_rightThatCounts_10 : decode cX3_rightThatCounts 10 = .ok (.if_icmp .ge 48, 3) := by decide +kernel
theorem dX3_rightThatCounts_13 : decode cX3_rightThatCounts 13 = .ok (.iload 4, 2) := by decide +kernel
theorem dX3_rightThatCounts_15 : decode cX3_rightThatCounts 15 = .ok (.iconst (-1), 1) := by decide +kernel
theorem dX3_rightThatCounts_16 : decode cX3_rightThatCounts 16 = .ok (.if_icmp .eq 42, 3) := by decide +kernel
theorem dX3_rightThatCounts_19 : decode cX3_rightThatCounts 19 = .ok (.aload_n 0, 1) := by decide +kernel
theorem dX3_rightThatCounts_20 : decode cX3_rightThatCounts 20 = .ok (.getfield 9, 3) := by decide +kernel
theorem dX3_rightThatCounts_23 : decode cX3_rightThatCounts 23 = .ok (.iload_n 1, 1) := by decide +kernel
theorem dX3_rightThatCounts_24 : decode cX3_rightThatCounts 24 = .ok (.bipush 42, 2) := by decide +kernel
theorem dX3_rightThatCounts_26 : decode cX3_rightThatCounts 26 = .ok (.imul, 1) := by decide +kernel
theorem dX3_rightThatCounts_27 : decode cX3_rightThatCounts 27 = .ok (.iload 4, 2) := by decide +kernel
theorem dX3_rightThatCounts_29 : decode cX3_rightThatCounts 29 = .ok (.iadd, 1) := by decide +kernel
theorem dX3_rightThatCounts_30 : decode cX3_rightThatCounts 30 = .ok (.invokestatic 29, 3) := by decide +kernel
theorem dX3_rightThatCounts_33 : decode cX3_rightThatCounts 33 = .ok (.istore 6, 2) := by decide +kernel
theorem dX3_rightThatCounts_35 : decode cX3_rightThatCounts 35 = .ok (.iload 6, 2) := by decide +kernel
theorem dX3_rightThatCounts_37 : decode cX3_rightThatCounts 37 = .ok (.iconst (-1), 1) := by decide +kernel
theorem dX3_rightThatCounts_38 : decode cX3_rightThatCounts 38 = .ok (.if_icmp .eq 6, 3) := by decide +kernel
theorem dX3_rightThatCounts_41 : decode cX3_rightThatCounts 41 = .ok (.iload 6, 2) := by decide +kernel
theorem dX3_rightThatCounts_43 : decode cX3_rightThatCounts 43 = .ok (.ireturn, 1) := by decide +kernel
theorem dX3_rightThatCounts_44 : decode cX3_rightThatCounts 44 = .ok (.aload_n 2, 1) := by decide +kernel
theorem dX3_rightThatCounts_45 : decode cX3_rightThatCounts 45 = .ok (.iload 4, 2) := by decide +kernel
theorem dX3_rightThatCounts_47 : decode cX3_rightThatCounts 47 = .ok (.invokevirtual 33, 3) := by decide +kernel
theorem dX3_rightThatCounts_50 : decode cX3_rightThatCounts 50 = .ok (.istore 4, 2) := by decide +kernel
theorem dX3_rightThatCounts_52 : decode cX3_rightThatCounts 52 = .ok (.iinc 5 1, 3) := by decide +kernel
theorem dX3_rightThatCounts_55 : decode cX3_rightThatCounts 55 = .ok (.goto (-49), 3) := by decide +kernel
theorem dX3_rightThatCounts_58 : decode cX3_rightThatCounts 58 = .ok (.iconst 0, 1) := by decide +kernel
theorem dX3_rightThatCounts_59 : decode cX3_rightThatCounts 59 = .ok (.ireturn, 1) := by decide +kernel
set_option maxRecDepth 20000 in
theorem ggX4_init_X4_clear : GoodIn wsX4_init wsX4_clear := goodIn_r _ [19, 7, 8, 9, 10, 11, 20, 21, 22, 23, 24, 25, 26, 27, 28, 29, 30, 31, 32, 33, 34, 35] (by decide +kernel) (by decide +kernel)
set_option maxRecDepth 20000 in
theorem gX4_init_X4_clear : GoodIn wsX4_init (wsV RX4 43 RX4 yX4_clear wsX4_clear) := goodIn_app (goodIn_of _ (by decide +kernel)) ggX4_init_X4_clear
theorem dX4_init_0 : decode cX4_init 0 = .ok (.aload_n 0, 1) := by decide +kernel
theorem dX4_init_1 : decode cX4_init 1 = .ok (.invokespecial 3, 3) := by decide +kernel
theorem dX4_init_4 : decode cX4_init 4 = .ok (.aload_n 0, 1) := by decide +kernel
theorem dX4_init_5 : decode cX4_init 5 = .ok (.bipush 40, 2) := by decide +kernel
theorem dX4_init_7 : decode cX4_init 7 = .ok (.newarray .int, 2) := by decide +kernel
theorem dX4_init_9 : decode cX4_init 9 = .ok (.putfield 9, 3) := by decide +kernel
theorem dX4_init_12 : decode cX4_init 12 = .ok (.aload_n 0, 1) := by decide +kernel
theorem dX4_init_13 : decode cX4_init 13 = .ok (.bipush 42, 2) := by decide +kernel
theorem dX4_init_15 : decode cX4_init 15 = .ok (.newarray .boolean, 2) := by decide +kernel
theorem dX4_init_17 : decode cX4_init 17 = .ok (.putfield 15, 3) := by decide +kernel
theorem dX4_init_20 : decode cX4_init 20 = .ok (.aload_n 0, 1) := by decide +kernel
theorem dX4_init_21 : decode cX4_init 21 = .ok (.bipush 42, 2) := by decide +kernel
theorem dX4_init_23 : decode cX4_init 23 = .ok (.newarray .int, 2) := by decide +kernel
theorem dX4_init_25 : decode cX4_init 25 = .ok (.putfield 19, 3) := by decide +kernel
theorem dX4_init_28 : decode cX4_init 28 = .ok (.aload_n 0, 1) := by decide +kernel
theorem dX4_init_29 : decode cX4_init 29 = .ok (.bipush 42, 2) := by decide +kernel
theorem dX4_init_31 : decode cX4_init 31 = .ok (.newarray .int, 2) := by decide +kernel
theorem dX4_init_33 : decode cX4_init 33 = .ok (.putfield 22, 3) := by decide +kernel
theorem dX4_init_36 : decode cX4_init 36 = .ok (.aload_n 0, 1) := by decide +kernel
theorem dX4_init_37 : decode cX4_init 37 = .ok (.bipush 42, 2) := by decide +kernel
theorem dX4_init_39 : decode cX4_init 39 = .ok (.newarray .int, 2) := by decide +kernel
theorem dX4_init_41 : decode cX4_init 41 = .ok (.putfield 25, 3) := by decide +kernel
theorem dX4_init_44 : decode cX4_init 44 = .ok (.aload_n 0, 1) := by decide +kernel
theorem dX4_init_45 : decode cX4_init 45 = .ok (.sipush 168, 3) := by decide +kernel
theorem dX4_init_48 : decode cX4_init 48 = .ok (.newarray .int, 2) := by decide +kernel
theorem dX4_init_50 : decode cX4_init 50 = .ok (.putfield 28, 3) := by decide +kernel
theorem dX4_init_53 : decode cX4_init 53 = .ok (.aload_n 0, 1) := by decide +kernel
theorem dX4_init_54 : decode cX4_init 54 = .ok (.iload_n 1, 1) := by decide +kernel
theorem dX4_init_55 : decode cX4_init 55 = .ok (.putfield 31, 3) := by decide +kernel
theorem dX4_init_58 : decode cX4_init 58 = .ok (.aload_n 0, 1) := by decide +kernel
theorem dX4_init_59 : decode cX4_init 59 = .ok (.aload_n 2, 1) := by decide +kernel
theorem dX4_init_60 : decode cX4_init 60 = .ok (.putfield 35, 3) := by decide +kernel
theorem dX4_init_63 : decode cX4_init 63 = .ok (.aload_n 0, 1) := by decide +kernel
theorem dX4_init_64 : decode cX4_init 64 = .ok (.aload_n 3, 1) := by decide +kernel
theorem dX4_init_65 : decode cX4_init 65 = .ok (.putfield 39, 3) := by decide +kernel
theorem dX4_init_68 : decode cX4_init 68 = .ok (.aload_n 0, 1) := by decide +kernel
theorem dX4_init_69 : decode cX4_init 69 = .ok (.invokevirtual 43, 3) := by decide +kernel
theorem dX4_init_72 : decode cX4_init 72 = .ok (.return_, 1) := by decide +kernel
set_option maxRecDepth 20000 in
theorem ggX4_clear_J7_fill_53178 : GoodIn wsX4_clear wsJ7_fill_53178 := goodIn_r _ [10] (by decide +kernel) (by decide +kernel)
set_option maxRecDepth 20000 in
theorem gX4_clear_J7_fill_53178 : GoodIn wsX4_clear (va_wsS RX4 46 yJ7_fill_53178 wsJ7_fill_53178) := goodIn_app (goodIn_of _ (by decide +kernel)) ggX4_clear_J7_fill_53178
theorem dX4_clear_0 : decode cX4_clear 0 = .ok (.iconst 0, 1) := by decide +kernel
theorem dX4_clear_1 : decode cX4_clear 1 = .ok (.istore_n 1, 1) := by decide +kernel
theorem dX4_clear_2 : decode cX4_clear 2 = .ok (.iload_n 1, 1) := by decide +kernel
theorem dX4_clear_3 : decode cX4_clear 3 = .ok (.bipush 42, 2) := by decide +kernel
theorem dX4_clear_5 : decode cX4_clear 5 = .ok (.if_icmp .ge 25, 3) := by decide +kernel
theorem dX4_clear_8 : decode cX4_clear 8 = .ok (.aload_n 0, 1) := by decide +kernel
theorem dX4_clear_9 : decode cX4_clear 9 = .ok (.getfield 15, 3) := by decide +kernel
theorem dX4_clear_12 : decode cX4_clear 12 = .ok (.iload_n 1, 1) := by decide +kernel
theorem dX4_clear_13 : decode cX4_clear 13 = .ok (.iload_n 1, 1) := by decide +kernel
theorem dX4_clear_14 : decode cX4_clear 14 = .ok (.iconst 2, 1) := by decide +kernel
theorem dX4_clear_15 : decode cX4_clear 15 = .ok (.if_icmp .ge 7, 3) := by decide +kernel
theorem dX4_clear_18 : decode cX4_clear 18 = .ok (.iconst 1, 1) := by decide +kernel
theorem dX4_clear_19 : decode cX4_clear 19 = .ok (.goto 4, 3) := by decide +kernel
theorem dX4_clear_22 : decode cX4_clear 22 = .ok (.iconst 0, 1) := by decide +kernel
theorem dX4_clear_23 : decode cX4_clear 23 = .ok (.bastore, 1) := by decide +kernel
theorem dX4_clear_24 : decode cX4_clear 24 = .ok (.iinc 1 1, 3) := by decide +kernel
theorem dX4_clear_27 : decode cX4_clear 27 = .ok (.goto (-25), 3) := by decide +kernel
theorem dX4_clear_30 : decode cX4_clear 30 = .ok (.aload_n 0, 1) := by decide +kernel
theorem dX4_clear_31 : decode cX4_clear 31 = .ok (.getfield 19, 3) := by decide +kernel
theorem dX4_clear_34 : decode cX4_clear 34 = .ok (.iconst (-1), 1) := by decide +kernel
theorem dX4_clear_35 : decode cX4_clear 35 = .ok (.invokestatic 46, 3) := by decide +kernel
theorem dX4_clear_38 : decode cX4_clear 38 = .ok (.aload_n 0, 1) := by decide +kernel
theorem dX4_clear_39 : decode cX4_clear 39 = .ok (.getfield 22, 3) := by decide +kernel
theorem dX4_clear_42 : decode cX4_clear 42 = .ok (.iconst (-1), 1) := by decide +kernel
theorem dX4_clear_43 : decode cX4_clear 43 = .ok (.invokestatic 46, 3) := by decide +kernel
theorem dX4_clear_46 : decode cX4_clear 46 = .ok (.aload_n 0, 1) := by decide +kernel
theorem dX4_clear_47 : decode cX4_clear 47 = .ok (.getfield 25, 3) := by decide +kernel
theorem dX4_clear_50 : decode cX4_clear 50 = .ok (.iconst 0, 1) := by decide +kernel
theorem dX4_clear_51 : decode cX4_clear 51 = .ok (.invokestatic 46, 3) := by decide +kernel
theorem dX4_clear_54 : decode cX4_clear 54 = .ok (.aload_n 0, 1) := by decide +kernel
theorem dX4_clear_55 : decode cX4_clear 55 = .ok (.getfield 28, 3) := by decide +kernel
theorem dX4_clear_58 : decode cX4_clear 58 = .ok (.iconst (-1), 1) := by decide +kernel
theorem dX4_clear_59 : decode cX4_clear 59 = .ok (.invokestatic 46, 3) := by decide +kernel
theorem dX4_clear_62 : decode cX4_clear 62 = .ok (.aload_n 0, 1) := by decide +kernel
theorem dX4_clear_63 : decode cX4_clear 63 = .ok (.getfield 19, 3) := by decide +kernel
theorem dX4_clear_66 : decode cX4_clear 66 = .ok (.iconst 1, 1) := by decide +kernel
theorem dX4_clear_67 : decode cX4_clear 67 = .ok (.iconst 0, 1) := by decide +kernel
theorem dX4_clear_68 : decode cX4_clear 68 = .ok (.iastore, 1) := by decide +kernel
theorem dX4_clear_69 : decode cX4_clear 69 = .ok (.aload_n 0, 1) := by decide +kernel
theorem dX4_clear_70 : decode cX4_clear 70 = .ok (.getfield 22, 3) := by decide +kernel
theorem dX4_clear_73 : decode cX4_clear 73 = .ok (.iconst 1, 1) := by decide +kernel
theorem dX4_clear_74 : decode cX4_clear 74 = .ok (.bipush 99, 2) := by decide +kernel
theorem dX4_clear_76 : decode cX4_clear 76 = .ok (.iastore, 1) := by decide +kernel
theorem dX4_clear_77 : decode cX4_clear 77 = .ok (.aload_n 0, 1) := by decide +kernel
theorem dX4_clear_78 : decode cX4_clear 78 = .ok (.iconst 2, 1) := by decide +kernel
theorem dX4_clear_79 : decode cX4_clear 79 = .ok (.putfield 52, 3) := by decide +kernel
theorem dX4_clear_82 : decode cX4_clear 82 = .ok (.return_, 1) := by decide +kernel
theorem dX4_knows_0 : decode cX4_knows 0 = .ok (.iconst 0, 1) := by decide +kernel
theorem dX4_knows_1 : decode cX4_knows 1 = .ok (.istore_n 2, 1) := by decide +kernel
theorem dX4_knows_2 : decode cX4_knows 2 = .ok (.iload_n 2, 1) := by decide +kernel
theorem dX4_knows_3 : decode cX4_knows 3 = .ok (.aload_n 0, 1) := by decide +kernel
theorem dX4_knows_4 : decode cX4_knows 4 = .ok (.getfield 55, 3) := by decide +kernel
theorem dX4_knows_7 : decode cX4_knows 7 = .ok (.if_icmp .ge 27, 3) := by decide +kernel
theorem dX4_knows_10 : decode cX4_knows 10 = .ok (.iload_n 2, 1) := by decide +kernel
theorem dX4_knows_11 : decode cX4_knows 11 = .ok (.bipush 40, 2) := by decide +kernel
theorem dX4_knows_13 : decode cX4_knows 13 = .ok (.if_icmp .ge 21, 3) := by decide +kernel
theorem dX4_knows_16 : decode cX4_knows 16 = .ok (.aload_n 0, 1) := by decide +kernel
theorem dX4_knows_17 : decode cX4_knows 17 = .ok (.getfield 9, 3) := by decide +kernel
theorem dX4_knows_20 : decode cX4_knows 20 = .ok (.iload_n 2, 1) := by decide +kernel
theorem dX4_knows_21 : decode cX4_knows 21 = .ok (.iaload, 1) := by decide +kernel
theorem dX4_knows_22 : decode cX4_knows 22 = .ok (.iload_n 1, 1) := by decide +kernel
theorem dX4_knows_23 : decode cX4_knows 23 = .ok (.if_icmp .ne 5, 3) := by decide +kernel
theorem dX4_knows_26 : decode cX4_knows 26 = .ok (.iconst 1, 1) := by decide +kernel
theorem dX4_knows_27 : decode cX4_knows 27 = .ok (.ireturn, 1) := by decide +kernel
theorem dX4_knows_28 : decode cX4_knows 28 = .ok (.iinc 2 1, 3) := by decide +kernel
theorem dX4_knows_31 : decode cX4_knows 31 = .ok (.goto (-29), 3) := by decide +kernel
theorem dX4_knows_34 : decode cX4_knows 34 = .ok (.iconst 0, 1) := by decide +kernel
theorem dX4_knows_35 : decode cX4_knows 35 = .ok (.ireturn, 1) := by decide +kernel
set_option maxRecDepth 20000 in
theorem ggX4_stampOfNext_X5_at : GoodIn wsX4_stampOfNext wsX5_at := goodIn_r _ [7] (by decide +kernel) (by decide +kernel)
set_option maxRecDepth 20000 in
theorem gX4_stampOfNext_X5_at_n58 : GoodIn wsX4_stampOfNext (wsX5_at) := ggX4_stampOfNext_X5_at
set_option maxRecDepth 20000 in
theorem ggX4_stampOfNext_X2_timeAt : GoodIn wsX4_stampOfNext wsX2_timeAt := goodIn_r _ [12, 13, 5, 6, 7, 28, 29, 30, 31, 32, 33, 34] (by decide +kernel) (by decide +kernel)
set_option maxRecDepth 20000 in
theorem gX4_stampOfNext_X2_timeAt : GoodIn wsX4_stampOfNext (wsV RX4 62 RX2 yX2_timeAt wsX2_timeAt) := goodIn_app (goodIn_of _ (by decide +kernel)) ggX4_stampOfNext_X2_timeAt
set_option maxRecDepth 20000 in
theorem ggX4_stampOfNext_X2_stampFrom : GoodIn wsX4_stampOfNext wsX2_stampFrom := goodIn_r _ [16] (by decide +kernel) (by decide +kernel)
set_option maxRecDepth 20000 in
theorem gX4_stampOfNext_X2_stampFrom : GoodIn wsX4_stampOfNext (va_wsS RX4 68 yX2_stampFrom wsX2_stampFrom) := goodIn_app (goodIn_of _ (by decide +kernel)) ggX4_stampOfNext_X2_stampFrom
theorem dX4_stampOfNext_0 : decode cX4_stampOfNext 0 = .ok (.aload_n 0, 1) := by decide +kernel
theorem dX4_stampOfNext_1 : decode cX4_stampOfNext 1 = .ok (.getfield 55, 3) := by decide +kernel
theorem dX4_stampOfNext_4 : decode cX4_stampOfNext 4 = .ok (.ifCond .ne 7, 3) := by decide +kernel
theorem dX4_stampOfNext_7 : decode cX4_stampOfNext 7 = .ok (.iconst 0, 1) := by decide +kernel
theorem dX4_stampOfNext_8 : decode cX4_stampOfNext 8 = .ok (.goto 23, 3) := by decide +kernel
theorem dX4_stampOfNext_11 : decode cX4_stampOfNext 11 = .ok (.aload_n 0, 1) := by decide +kernel
theorem dX4_stampOfNext_12 : decode cX4_stampOfNext 12 = .ok (.getfield 35, 3) := by decide +kernel
theorem dX4_stampOfNext_15 : decode cX4_stampOfNext 15 = .ok (.aload_n 0, 1) := by decide +kernel
theorem dX4_stampOfNext_16 : decode cX4_stampOfNext 16 = .ok (.getfield 9, 3) := by decide +kernel
theorem dX4_stampOfNext_19 : decode cX4_stampOfNext 19 = .ok (.aload_n 0, 1) := by decide +kernel
theorem dX4_stampOfNext_20 : decode cX4_stampOfNext 20 = .ok (.getfield 55, 3) := by decide +kernel
theorem dX4_stampOfNext_23 : decode cX4_stampOfNext 23 = .ok (.iconst 1, 1) := by decide +kernel
theorem dX4_stampOfNext_24 : decode cX4_stampOfNext 24 = .ok (.isub, 1) := by decide +kernel
theorem dX4_stampOfNext_25 : decode cX4_stampOfNext 25 = .ok (.invokestatic 58, 3) := by decide +kernel
theorem dX4_stampOfNext_28 : decode cX4_stampOfNext 28 = .ok (.invokevirtual 62, 3) := by decide +kernel
theorem dX4_stampOfNext_31 : decode cX4_stampOfNext 31 = .ok (.istore_n 1, 1) := by decide +kernel
theorem dX4_stampOfNext_32 : decode cX4_stampOfNext 32 = .ok (.iload_n 1, 1) := by decide +kernel
theorem dX4_stampOfNext_33 : decode cX4_stampOfNext 33 = .ok (.iconst 1, 1) := by decide +kernel
theorem dX4_stampOfNext_34 : decode cX4_stampOfNext 34 = .ok (.iadd, 1) := by decide +kernel
theorem dX4_stampOfNext_35 : decode cX4_stampOfNext 35 = .ok (.aload_n 0, 1) := by decide +kernel
theorem dX4_stampOfNext_36 : decode cX4_stampOfNext 36 = .ok (.getfield 31, 3) := by decide +kernel
theorem dX4_stampOfNext_39 : decode cX4_stampOfNext 39 = .ok (.invokestatic 68, 3) := by decide +kernel
theorem dX4_stampOfNext_42 : decode cX4_stampOfNext 42 = .ok (.ireturn, 1) := by decide +kernel
set_option maxRecDepth 20000 in
theorem ggX4_learn_X4_putInOrder : GoodIn wsX4_learn wsX4_putInOrder := goodIn_r _ [7, 1, 8, 2, 9, 10, 11, 12, 13, 14, 15, 16, 17, 18, 19, 91, 92, 93, 94, 95, 96, 97, 98, 99, 100, 101, 102, 103, 104, 105, 106, 107, 108] (by decide +kernel) (by decide +kernel)
set_option maxRecDepth 20000 in
theorem gX4_learn_X4_putInOrder : GoodIn wsX4_learn (wsV RX4 72 RX4 yX4_putInOrder wsX4_putInOrder) := goodIn_app (goodIn_of _ (by decide +kernel)) ggX4_learn_X4_putInOrder
set_option maxRecDepth 20000 in
theorem ggX4_learn_X4_clear : GoodIn wsX4_learn wsX4_clear := goodIn_r _ [23, 24, 25, 26, 27, 28, 29, 30, 31, 32, 33, 91, 92, 93, 94, 95, 96, 97, 98, 99, 100, 101] (by decide +kernel) (by decide +kernel)
set_option maxRecDepth 20000 in
theorem gX4_learn_X4_clear : GoodIn wsX4_learn (wsV RX4 43 RX4 yX4_clear wsX4_clear) := goodIn_app (goodIn_of _ (by decide +kernel)) ggX4_learn_X4_clear
set_option maxRecDepth 20000 in
theorem ggX4_learn_X4_perform : GoodIn wsX4_learn wsX4_perform := goodIn_r _ [37, 8, 9, 10, 11, 38, 39, 40, 6, 41, 24, 26, 27, 29, 42, 43, 44, 45, 25, 46, 47, 48, 49, 50, 51, 52, 53, 54, 55, 56, 57, 58, 59, 60, 28, 61, 62, 63, 64, 65, 66, 67, 68, 69, 70, 71, 72, 73, 74, 18, 19, 75, 76, 77, 78, 79, 80, 81, 82, 83, 84, 85, 86, 87, 88, 89, 90, 91, 92, 93, 94, 95, 96, 97, 98, 99, 100, 101, 102, 103, 104, 105, 106, 107, 108, 109, 110] (by decide +kernel) (by decide +kernel)
set_option maxRecDepth 20000 in
theorem gX4_learn_X4_perform : GoodIn wsX4_learn (wsV RX4 75 RX4 yX4_perform wsX4_perform) := goodIn_app (goodIn_of _ (by decide +kernel)) ggX4_learn_X4_perform
theorem dX4_learn_0 : decode cX4_learn 0 = .ok (.aload_n 0, 1) := by decide +kernel
theorem dX4_learn_1 : decode cX4_learn 1 = .ok (.getfield 55, 3) := by decide +kernel
theorem dX4_learn_4 : decode cX4_learn 4 = .ok (.bipush 40, 2) := by decide +kernel
theorem dX4_learn_6 : decode cX4_learn 6 = .ok (.if_icmp .lt 4, 3) := by decide +kernel
theorem dX4_learn_9 : decode cX4_learn 9 = .ok (.return_, 1) := by decide +kernel
theorem dX4_learn_10 : decode cX4_learn 10 = .ok (.aload_n 0, 1) := by decide +kernel
theorem dX4_learn_11 : decode cX4_learn 11 = .ok (.iload_n 1, 1) := by decide +kernel
theorem dX4_learn_12 : decode cX4_learn 12 = .ok (.invokevirtual 72, 3) := by decide +kernel
theorem dX4_learn_15 : decode cX4_learn 15 = .ok (.istore_n 2, 1) := by decide +kernel
theorem dX4_learn_16 : decode cX4_learn 16 = .ok (.iload_n 2, 1) := by decide +kernel
theorem dX4_learn_17 : decode cX4_learn 17 = .ok (.aload_n 0, 1) := by decide +kernel
theorem dX4_learn_18 : decode cX4_learn 18 = .ok (.getfield 55, 3) := by decide +kernel
theorem dX4_learn_21 : decode cX4_learn 21 = .ok (.iconst 1, 1) := by decide +kernel
theorem dX4_learn_22 : decode cX4_learn 22 = .ok (.isub, 1) := by decide +kernel
theorem dX4_learn_23 : decode cX4_learn 23 = .ok (.if_icmp .ge 9, 3) := by decide +kernel
theorem dX4_learn_26 : decode cX4_learn 26 = .ok (.aload_n 0, 1) := by decide +kernel
theorem dX4_learn_27 : decode cX4_learn 27 = .ok (.invokevirtual 43, 3) := by decide +kernel
theorem dX4_learn_30 : decode cX4_learn 30 = .ok (.iconst 0, 1) := by decide +kernel
theorem dX4_learn_31 : decode cX4_learn 31 = .ok (.istore_n 2, 1) := by decide +kernel
theorem dX4_learn_32 : decode cX4_learn 32 = .ok (.iload_n 2, 1) := by decide +kernel
theorem dX4_learn_33 : decode cX4_learn 33 = .ok (.aload_n 0, 1) := by decide +kernel
theorem dX4_learn_34 : decode cX4_learn 34 = .ok (.getfield 55, 3) := by decide +kernel
theorem dX4_learn_37 : decode cX4_learn 37 = .ok (.if_icmp .ge 25, 3) := by decide +kernel
theorem dX4_learn_40 : decode cX4_learn 40 = .ok (.iload_n 2, 1) := by decide +kernel
theorem dX4_learn_41 : decode cX4_learn 41 = .ok (.bipush 40, 2) := by decide +kernel
theorem dX4_learn_43 : decode cX4_learn 43 = .ok (.if_icmp .ge 19, 3) := by decide +kernel
theorem dX4_learn_46 : decode cX4_learn 46 = .ok (.aload_n 0, 1) := by decide +kernel
theorem dX4_learn_47 : decode cX4_learn 47 = .ok (.aload_n 0, 1) := by decide +kernel
theorem dX4_learn_48 : decode cX4_learn 48 = .ok (.getfield 9, 3) := by decide +kernel
theorem dX4_learn_51 : decode cX4_learn 51 = .ok (.iload_n 2, 1) := by decide +kernel
theorem dX4_learn_52 : decode cX4_learn 52 = .ok (.iaload, 1) := by decide +kernel
theorem dX4_learn_53 : decode cX4_learn 53 = .ok (.invokevirtual 75, 3) := by decide +kernel
theorem dX4_learn_56 : decode cX4_learn 56 = .ok (.iinc 2 1, 3) := by decide +kernel
theorem dX4_learn_59 : decode cX4_learn 59 = .ok (.goto (-27), 3) := by decide +kernel
theorem dX4_learn_62 : decode cX4_learn 62 = .ok (.return_, 1) := by decide +kernel
set_option maxRecDepth 20000 in
theorem ggX4_putInOrder_X5_at : GoodIn wsX4_putInOrder wsX5_at := goodIn_r _ [6] (by decide +kernel) (by decide +kernel)
set_option maxRecDepth 20000 in
theorem gX4_putInOrder_X5_at_n58 : GoodIn wsX4_putInOrder (wsX5_at) := ggX4_putInOrder_X5_at
set_option maxRecDepth 20000 in
theorem ggX4_putInOrder_X2_stampAt : GoodIn wsX4_putInOrder wsX2_stampAt := goodIn_r _ [11, 12, 4, 5, 6, 26, 27, 28, 29, 30, 31, 32] (by decide +kernel) (by decide +kernel)
set_option maxRecDepth 20000 in
theorem gX4_putInOrder_X2_stampAt : GoodIn wsX4_putInOrder (wsV RX4 79 RX2 yX2_stampAt wsX2_stampAt) := goodIn_app (goodIn_of _ (by decide +kernel)) ggX4_putInOrder_X2_stampAt
set_option maxRecDepth 20000 in
theorem ggX4_putInOrder_X5_put : GoodIn wsX4_putInOrder wsX5_put := goodIn_r _ [14] (by decide +kernel) (by decide +kernel)
set_option maxRecDepth 20000 in
theorem gX4_putInOrder_X5_put_n82 : GoodIn wsX4_putInOrder (wsX5_put) := ggX4_putInOrder_X5_put
theorem dX4_putInOrder_0 : decode cX4_putInOrder 0 = .ok (.aload_n 0, 1) := by decide +kernel
theorem dX4_putInOrder_1 : decode cX4_putInOrder 1 = .ok (.getfield 55, 3) := by decide +kernel
theorem dX4_putInOrder_4 : decode cX4_putInOrder 4 = .ok (.istore_n 2, 1) := by decide +kernel
theorem dX4_putInOrder_5 : decode cX4_putInOrder 5 = .ok (.iload_n 2, 1) := by decide +kernel
theorem dX4_putInOrder_6 : decode cX4_putInOrder 6 = .ok (.ifCond .le 55, 3) := by decide +kernel
theorem dX4_putInOrder_9 : decode cX4_putInOrder 9 = .ok (.aload_n 0, 1) := by decide +kernel
theorem dX4_putInOrder_10 : decode cX4_putInOrder 10 = .ok (.getfield 35, 3) := by decide +kernel
theorem dX4_putInOrder_13 : decode cX4_putInOrder 13 = .ok (.aload_n 0, 1) := by decide +kernel
theorem dX4_putInOrder_14 : decode cX4_putInOrder 14 = .ok (.getfield 9, 3) := by decide +kernel
theorem dX4_putInOrder_17 : decode cX4_putInOrder 17 = .ok (.iload_n 2, 1) := by decide +kernel
theorem dX4_putInOrder_18 : decode cX4_putInOrder 18 = .ok (.iconst 1, 1) := by decide +kernel
theorem dX4_putInOrder_19 : decode cX4_putInOrder 19 = .ok (.isub, 1) := by decide +kernel
theorem dX4_putInOrder_20 : decode cX4_putInOrder 20 = .ok (.invokestatic 58, 3) := by decide +kernel
theorem dX4_putInOrder_23 : decode cX4_putInOrder 23 = .ok (.invokevirtual 79, 3) := by decide +kernel
theorem dX4_putInOrder_26 : decode cX4_putInOrder 26 = .ok (.aload_n 0, 1) := by decide +kernel
theorem dX4_putInOrder_27 : decode cX4_putInOrder 27 = .ok (.getfield 35, 3) := by decide +kernel
theorem dX4_putInOrder_30 : decode cX4_putInOrder 30 = .ok (.iload_n 1, 1) := by decide +kernel
theorem dX4_putInOrder_31 : decode cX4_putInOrder 31 = .ok (.invokevirtual 79, 3) := by decide +kernel
theorem dX4_putInOrder_34 : decode cX4_putInOrder 34 = .ok (.if_icmp .le 27, 3) := by decide +kernel
theorem dX4_putInOrder_37 : decode cX4_putInOrder 37 = .ok (.aload_n 0, 1) := by decide +kernel
theorem dX4_putInOrder_38 : decode cX4_putInOrder 38 = .ok (.getfield 9, 3) := by decide +kernel
theorem dX4_putInOrder_41 : decode cX4_putInOrder 41 = .ok (.iload_n 2, 1) := by decide +kernel
theorem dX4_putInOrder_42 : decode cX4_putInOrder 42 = .ok (.aload_n 0, 1) := by decide +kernel
theorem dX4_putInOrder_43 : decode cX4_putInOrder 43 = .ok (.getfield 9, 3) := by decide +kernel
theorem dX4_putInOrder_46 : decode cX4_putInOrder 46 = .ok (.iload_n 2, 1) := by decide +kernel
theorem dX4_putInOrder_47 : decode cX4_putInOrder 47 = .ok (.iconst 1, 1) := by decide +kernel
theorem dX4_putInOrder_48 : decode cX4_putInOrder 48 = .ok (.isub, 1) := by decide +kernel
theorem dX4_putInOrder_49 : decode cX4_putInOrder 49 = .ok (.invokestatic 58, 3) := by decide +kernel
theorem dX4_putInOrder_52 : decode cX4_putInOrder 52 = .ok (.invokestatic 82, 3) := by decide +kernel
theorem dX4_putInOrder_55 : decode cX4_putInOrder 55 = .ok (.iinc 2 (-1), 3) := by decide +kernel
theorem dX4_putInOrder_58 : decode cX4_putInOrder 58 = .ok (.goto (-53), 3) := by decide +kernel
theorem dX4_putInOrder_61 : decode cX4_putInOrder 61 = .ok (.aload_n 0, 1) := by decide +kernel
theorem dX4_putInOrder_62 : decode cX4_putInOrder 62 = .ok (.getfield 9, 3) := by decide +kernel
theorem dX4_putInOrder_65 : decode cX4_putInOrder 65 = .ok (.iload_n 2, 1) := by decide +kernel
theorem dX4_putInOrder_66 : decode cX4_putInOrder 66 = .ok (.iload_n 1, 1) := by decide +kernel
theorem dX4_putInOrder_67 : decode cX4_putInOrder 67 = .ok (.invokestatic 82, 3) := by decide +kernel
theorem dX4_putInOrder_70 : decode cX4_putInOrder 70 = .ok (.aload_n 0, 1) := by decide +kernel
theorem dX4_putInOrder_71 : decode cX4_putInOrder 71 = .ok (.dup, 1) := by decide +kernel
theorem dX4_putInOrder_72 : decode cX4_putInOrder 72 = .ok (.getfield 55, 3) := by decide +kernel
theorem dX4_putInOrder_75 : decode cX4_putInOrder 75 = .ok (.iconst 1, 1) := by decide +kernel
theorem dX4_putInOrder_76 : decode cX4_putInOrder 76 = .ok (.iadd, 1) := by decide +kernel
theorem dX4_putInOrder_77 : decode cX4_putInOrder 77 = .ok (.putfield 55, 3) := by decide +kernel
theorem dX4_putInOrder_80 : decode cX4_putInOrder 80 = .ok (.iload_n 2, 1) := by decide +kernel
theorem dX4_putInOrder_81 : decode cX4_putInOrder 81 = .ok (.ireturn, 1) := by decide +kernel
set_option maxRecDepth 20000 in
theorem ggX4_perform_X5_at : GoodIn wsX4_perform wsX5_at := goodIn_r _ [4] (by decide +kernel) (by decide +kernel)
set_option maxRecDepth 20000 in
theorem gX4_perform_X5_at_n58 : GoodIn wsX4_perform (wsX5_at) := ggX4_perform_X5_at
set_option maxRecDepth 20000 in
theorem ggX4_perform_X4_performAdding : GoodIn wsX4_perform wsX4_performAdding := goodIn_r _ [9, 10, 11, 12, 13, 14, 15, 16, 8, 17, 18, 19, 20, 21, 22, 23, 24, 25, 26, 27, 28, 29, 67, 68, 69, 70, 71, 72, 73, 74, 75, 76, 77] (by decide +kernel) (by decide +kernel)
set_option maxRecDepth 20000 in
theorem gX4_perform_X4_performAdding : GoodIn wsX4_perform (wsV RX4 101 RX4 yX4_performAdding wsX4_performAdding) := goodIn_app (goodIn_of _ (by decide +kernel)) ggX4_perform_X4_performAdding
set_option maxRecDepth 20000 in
theorem ggX4_perform_X4_performSetting : GoodIn wsX4_perform wsX4_performSetting := goodIn_r _ [33, 34, 19, 20, 21, 8, 22, 10, 35, 36, 37, 38, 39, 12, 2, 3, 4, 40, 41, 42, 43, 44, 45, 46, 47, 48, 49, 50, 67, 68, 69, 70, 71, 72, 73, 74, 75, 76, 77, 85, 86] (by decide +kernel) (by decide +kernel)
set_option maxRecDepth 20000 in
theorem gX4_perform_X4_performSetting : GoodIn wsX4_perform (wsV RX4 105 RX4 yX4_performSetting wsX4_performSetting) := goodIn_app (goodIn_of _ (by decide +kernel)) ggX4_perform_X4_performSetting
set_option maxRecDepth 20000 in
theorem ggX4_perform_X4_performMoving : GoodIn wsX4_perform wsX4_performMoving := goodIn_r _ [54, 11, 19, 20, 21, 8, 22, 10, 55, 56, 57, 58, 59, 60, 61, 62, 18, 2, 3, 4, 14, 15, 16, 17, 23, 24, 25, 26, 27, 28, 29, 67, 68, 69, 70, 71, 72, 73, 74, 75, 76, 77] (by decide +kernel) (by decide +kernel)
set_option maxRecDepth 20000 in
theorem gX4_perform_X4_performMoving : GoodIn wsX4_perform (wsV RX4 109 RX4 yX4_performMoving wsX4_performMoving) := goodIn_app (goodIn_of _ (by decide +kernel)) ggX4_perform_X4_performMoving
set_option maxRecDepth 20000 in
theorem ggX4_perform_X4_performDeleting : GoodIn wsX4_perform wsX4_performDeleting := goodIn_r _ [66, 10, 18, 13, 19, 20, 21, 8, 22, 14, 15, 16, 17, 11, 23, 24, 25, 26, 27, 28, 29, 67, 68, 69, 70, 71, 72, 73, 74, 75, 76, 77] (by decide +kernel) (by decide +kernel)
set_option maxRecDepth 20000 in
theorem gX4_perform_X4_performDeleting : GoodIn wsX4_perform (wsV RX4 112 RX4 yX4_performDeleting wsX4_performDeleting) := goodIn_app (goodIn_of _ (by decide +kernel)) ggX4_perform_X4_performDeleting
theorem dX4_perform_0 : decode cX4_perform 0 = .ok (.aload_n 0, 1) := by decide +kernel
theorem dX4_perform_1 : decode cX4_perform 1 = .ok (.getfield 35, 3) := by decide +kernel
theorem dX4_perform_4 : decode cX4_perform 4 = .ok (.getfield 86, 3) := by decide +kernel
theorem dX4_perform_7 : decode cX4_perform 7 = .ok (.iload_n 1, 1) := by decide +kernel
theorem dX4_perform_8 : decode cX4_perform 8 = .ok (.invokestatic 58, 3) := by decide +kernel
theorem dX4_perform_11 : decode cX4_perform 11 = .ok (.istore_n 2, 1) := by decide +kernel
theorem dX4_perform_12 : decode cX4_perform 12 = .ok (.aload_n 0, 1) := by decide +kernel
theorem dX4_perform_13 : decode cX4_perform 13 = .ok (.getfield 35, 3) := by decide +kernel
theorem dX4_perform_16 : decode cX4_perform 16 = .ok (.getfield 89, 3) := by decide +kernel
theorem dX4_perform_19 : decode cX4_perform 19 = .ok (.iload_n 1, 1) := by decide +kernel
theorem dX4_perform_20 : decode cX4_perform 20 = .ok (.invokestatic 58, 3) := by decide +kernel
theorem dX4_perform_23 : decode cX4_perform 23 = .ok (.istore_n 3, 1) := by decide +kernel
theorem dX4_perform_24 : decode cX4_perform 24 = .ok (.aload_n 0, 1) := by decide +kernel
theorem dX4_perform_25 : decode cX4_perform 25 = .ok (.getfield 35, 3) := by decide +kernel
theorem dX4_perform_28 : decode cX4_perform 28 = .ok (.getfield 92, 3) := by decide +kernel
theorem dX4_perform_31 : decode cX4_perform 31 = .ok (.iload_n 1, 1) := by decide +kernel
theorem dX4_perform_32 : decode cX4_perform 32 = .ok (.invokestatic 58, 3) := by decide +kernel
theorem dX4_perform_35 : decode cX4_perform 35 = .ok (.istore 4, 2) := by decide +kernel
theorem dX4_perform_37 : decode cX4_perform 37 = .ok (.aload_n 0, 1) := by decide +kernel
theorem dX4_perform_38 : decode cX4_perform 38 = .ok (.getfield 35, 3) := by decide +kernel
theorem dX4_perform_41 : decode cX4_perform 41 = .ok (.getfield 95, 3) := by decide +kernel
theorem dX4_perform_44 : decode cX4_perform 44 = .ok (.iload_n 1, 1) := by decide +kernel
theorem dX4_perform_45 : decode cX4_perform 45 = .ok (.invokestatic 58, 3) := by decide +kernel
theorem dX4_perform_48 : decode cX4_perform 48 = .ok (.tableswitch 84 0 3 #[32, 54, 65, 76], 32) := by decide +kernel
theorem dX4_perform_80 : decode cX4_perform 80 = .ok (.aload_n 0, 1) := by decide +kernel
theorem dX4_perform_81 : decode cX4_perform 81 = .ok (.iload_n 2, 1) := by decide +kernel
theorem dX4_perform_82 : decode cX4_perform 82 = .ok (.iload_n 3, 1) := by decide +kernel
theorem dX4_perform_83 : decode cX4_perform 83 = .ok (.iload 4, 2) := by decide +kernel
theorem dX4_perform_85 : decode cX4_perform 85 = .ok (.aload_n 0, 1) := by decide +kernel
theorem dX4_perform_86 : decode cX4_perform 86 = .ok (.getfield 35, 3) := by decide +kernel
theorem dX4_perform_89 : decode cX4_perform 89 = .ok (.getfield 98, 3) := by decide +kernel
theorem dX4_perform_92 : decode cX4_perform 92 = .ok (.iload_n 1, 1) := by decide +kernel
theorem dX4_perform_93 : decode cX4_perform 93 = .ok (.invokestatic 58, 3) := by decide +kernel
theorem dX4_perform_96 : decode cX4_perform 96 = .ok (.invokevirtual 101, 3) := by decide +kernel
theorem dX4_perform_99 : decode cX4_perform 99 = .ok (.goto 33, 3) := by decide +kernel
theorem dX4_perform_102 : decode cX4_perform 102 = .ok (.aload_n 0, 1) := by decide +kernel
theorem dX4_perform_103 : decode cX4_perform 103 = .ok (.iload_n 2, 1) := by decide +kernel
theorem dX4_perform_104 : decode cX4_perform 104 = .ok (.iload_n 3, 1) := by decide +kernel
theorem dX4_perform_105 : decode cX4_perform 105 = .ok (.iload 4, 2) := by decide +kernel
theorem dX4_perform_107 : decode cX4_perform 107 = .ok (.invokevirtual 105, 3) := by decide +kernel
theorem dX4_perform_110 : decode cX4_perform 110 = .ok (.goto 22, 3) := by decide +kernel
theorem dX4_perform_113 : decode cX4_perform 113 = .ok (.aload_n 0, 1) := by decide +kernel
theorem dX4_perform_114 : decode cX4_perform 114 = .ok (.iload_n 2, 1) := by decide +kernel
theorem dX4_perform_115 : decode cX4_perform 115 = .ok (.iload_n 3, 1) := by decide +kernel
theorem dX4_perform_116 : decode cX4_perform 116 = .ok (.iload 4, 2) := by decide +kernel
theorem dX4_perform_118 : decode cX4_perform 118 = .ok (.invokevirtual 109, 3) := by decide +kernel
theorem dX4_perform_121 : decode cX4_perform 121 = .ok (.goto 11, 3) := by decide +kernel
theorem dX4_perform_124 : decode cX4_perform 124 = .ok (.aload_n 0, 1) := by decide +kernel
theorem dX4_perform_125 : decode cX4_perform 125 = .ok (.iload_n 2, 1) := by decide +kernel
theorem dX4_perform_126 : decode cX4_perform 126 = .ok (.invokevirtual 112, 3) := by decide +kernel
theorem dX4_perform_129 : decode cX4_perform 129 = .ok (.goto 3, 3) := by decide +kernel
theorem dX4_perform_132 : decode cX4_perform 132 = .ok (.return_, 1) := by decide +kernel
set_option maxRecDepth 20000 in
theorem ggX4_performAdding_X4_settle : GoodIn wsX4_performAdding wsX4_settle := goodIn_r _ [9, 2, 10, 11, 12, 13, 8, 14, 1, 15, 16, 17, 18, 19, 20, 21, 22, 23, 24, 25, 26, 27, 28, 29, 30, 31, 32] (by decide +kernel) (by decide +kernel)
set_option maxRecDepth 20000 in
theorem gX4_performAdding_X4_settle : GoodIn wsX4_performAdding (wsV RX4 115 RX4 yX4_settle wsX4_settle) := goodIn_app (goodIn_of _ (by decide +kernel)) ggX4_performAdding_X4_settle
theorem dX4_performAdding_0 : decode cX4_performAdding 0 = .ok (.iload_n 1, 1) := by decide +kernel
theorem dX4_performAdding_1 : decode cX4_performAdding 1 = .ok (.ifCond .lt 9, 3) := by decide +kernel
theorem dX4_performAdding_4 : decode cX4_performAdding 4 = .ok (.iload_n 1, 1) := by decide +kernel
theorem dX4_performAdding_5 : decode cX4_performAdding 5 = .ok (.bipush 42, 2) := by decide +kernel
theorem dX4_performAdding_7 : decode cX4_performAdding 7 = .ok (.if_icmp .lt 4, 3) := by decide +kernel
theorem dX4_performAdding_10 : decode cX4_performAdding 10 = .ok (.return_, 1) := by decide +kernel
theorem dX4_performAdding_11 : decode cX4_performAdding 11 = .ok (.aload_n 0, 1) := by decide +kernel
theorem dX4_performAdding_12 : decode cX4_performAdding 12 = .ok (.getfield 15, 3) := by decide +kernel
theorem dX4_performAdding_15 : decode cX4_performAdding 15 = .ok (.iload_n 1, 1) := by decide +kernel
theorem dX4_performAdding_16 : decode cX4_performAdding 16 = .ok (.iconst 1, 1) := by decide +kernel
theorem dX4_performAdding_17 : decode cX4_performAdding 17 = .ok (.bastore, 1) := by decide +kernel
theorem dX4_performAdding_18 : decode cX4_performAdding 18 = .ok (.aload_n 0, 1) := by decide +kernel
theorem dX4_performAdding_19 : decode cX4_performAdding 19 = .ok (.getfield 22, 3) := by decide +kernel
theorem dX4_performAdding_22 : decode cX4_performAdding 22 = .ok (.iload_n 1, 1) := by decide +kernel
theorem dX4_performAdding_23 : decode cX4_performAdding 23 = .ok (.iload_n 3, 1) := by decide +kernel
theorem dX4_performAdding_24 : decode cX4_performAdding 24 = .ok (.iastore, 1) := by decide +kernel
theorem dX4_performAdding_25 : decode cX4_performAdding 25 = .ok (.aload_n 0, 1) := by decide +kernel
theorem dX4_performAdding_26 : decode cX4_performAdding 26 = .ok (.getfield 25, 3) := by decide +kernel
theorem dX4_performAdding_29 : decode cX4_performAdding 29 = .ok (.iload_n 1, 1) := by decide +kernel
theorem dX4_performAdding_30 : decode cX4_performAdding 30 = .ok (.iload 4, 2) := by decide +kernel
theorem dX4_performAdding_32 : decode cX4_performAdding 32 = .ok (.iastore, 1) := by decide +kernel
theorem dX4_performAdding_33 : decode cX4_performAdding 33 = .ok (.aload_n 0, 1) := by decide +kernel
theorem dX4_performAdding_34 : decode cX4_performAdding 34 = .ok (.dup, 1) := by decide +kernel
theorem dX4_performAdding_35 : decode cX4_performAdding 35 = .ok (.getfield 52, 3) := by decide +kernel
theorem dX4_performAdding_38 : decode cX4_performAdding 38 = .ok (.iconst 1, 1) := by decide +kernel
theorem dX4_performAdding_39 : decode cX4_performAdding 39 = .ok (.iadd, 1) := by decide +kernel
theorem dX4_performAdding_40 : decode cX4_performAdding 40 = .ok (.putfield 52, 3) := by decide +kernel
theorem dX4_performAdding_43 : decode cX4_performAdding 43 = .ok (.aload_n 0, 1) := by decide +kernel
theorem dX4_performAdding_44 : decode cX4_performAdding 44 = .ok (.iload_n 1, 1) := by decide +kernel
theorem dX4_performAdding_45 : decode cX4_performAdding 45 = .ok (.iload_n 2, 1) := by decide +kernel
theorem dX4_performAdding_46 : decode cX4_performAdding 46 = .ok (.invokevirtual 115, 3) := by decide +kernel
theorem dX4_performAdding_49 : decode cX4_performAdding 49 = .ok (.return_, 1) := by decide +kernel
set_option maxRecDepth 20000 in
theorem ggX4_performSetting_X4_has : GoodIn wsX4_performSetting wsX4_has := goodIn_r _ [6, 7, 28, 29, 30, 31, 32, 33, 34, 35, 36, 37, 38] (by decide +kernel) (by decide +kernel)
set_option maxRecDepth 20000 in
theorem gX4_performSetting_X4_has : GoodIn wsX4_performSetting (wsV RX4 119 RX4 yX4_has wsX4_has) := goodIn_app (goodIn_of _ (by decide +kernel)) ggX4_performSetting_X4_has
set_option maxRecDepth 20000 in
theorem ggX4_performSetting_X4_mayHold : GoodIn wsX4_performSetting wsX4_mayHold := goodIn_r _ [11, 12, 13, 14, 15, 16, 17, 18, 19, 20, 21, 22, 23, 24, 25, 28, 29, 30, 31, 32, 33, 34, 35, 36, 37, 38, 39, 40] (by decide +kernel) (by decide +kernel)
set_option maxRecDepth 20000 in
theorem gX4_performSetting_X4_mayHold : GoodIn wsX4_performSetting (wsV RX4 123 RX4 yX4_mayHold wsX4_mayHold) := goodIn_app (goodIn_of _ (by decide +kernel)) ggX4_performSetting_X4_mayHold
set_option maxRecDepth 20000 in
theorem ggX4_performSetting_X5_put : GoodIn wsX4_performSetting wsX5_put := goodIn_r _ [27] (by decide +kernel) (by decide +kernel)
set_option maxRecDepth 20000 in
theorem gX4_performSetting_X5_put_n82 : GoodIn wsX4_performSetting (wsX5_put) := ggX4_performSetting_X5_put
theorem dX4_performSetting_0 : decode cX4_performSetting 0 = .ok (.aload_n 0, 1) := by decide +kernel
theorem dX4_performSetting_1 : decode cX4_performSetting 1 = .ok (.iload_n 1, 1) := by decide +kernel
theorem dX4_performSetting_2 : decode cX4_performSetting 2 = .ok (.invokevirtual 119, 3) := by decide +kernel
theorem dX4_performSetting_5 : decode cX4_performSetting 5 = .ok (.ifCond .eq 25, 3) := by decide +kernel
theorem dX4_performSetting_8 : decode cX4_performSetting 8 = .ok (.aload_n 0, 1) := by decide +kernel
theorem dX4_performSetting_9 : decode cX4_performSetting 9 = .ok (.iload_n 1, 1) := by decide +kernel
theorem dX4_performSetting_10 : decode cX4_performSetting 10 = .ok (.iload_n 2, 1) := by decide +kernel
theorem dX4_performSetting_11 : decode cX4_performSetting 11 = .ok (.invokevirtual 123, 3) := by decide +kernel
theorem dX4_performSetting_14 : decode cX4_performSetting 14 = .ok (.ifCond .eq 16, 3) := by decide +kernel
theorem dX4_performSetting_17 : decode cX4_performSetting 17 = .ok (.aload_n 0, 1) := by decide +kernel
theorem dX4_performSetting_18 : decode cX4_performSetting 18 = .ok (.getfield 28, 3) := by decide +kernel
theorem dX4_performSetting_21 : decode cX4_performSetting 21 = .ok (.iload_n 1, 1) := by decide +kernel
theorem dX4_performSetting_22 : decode cX4_performSetting 22 = .ok (.iconst 4, 1) := by decide +kernel
theorem dX4_performSetting_23 : decode cX4_performSetting 23 = .ok (.imul, 1) := by decide +kernel
theorem dX4_performSetting_24 : decode cX4_performSetting 24 = .ok (.iload_n 2, 1) := by decide +kernel
theorem dX4_performSetting_25 : decode cX4_performSetting 25 = .ok (.iadd, 1) := by decide +kernel
theorem dX4_performSetting_26 : decode cX4_performSetting 26 = .ok (.iload_n 3, 1) := by decide +kernel
theorem dX4_performSetting_27 : decode cX4_performSetting 27 = .ok (.invokestatic 82, 3) := by decide +kernel
theorem dX4_performSetting_30 : decode cX4_performSetting 30 = .ok (.return_, 1) := by decide +kernel
set_option maxRecDepth 20000 in
theorem ggX4_performMoving_X4_has : GoodIn wsX4_performMoving wsX4_has := goodIn_r _ [6, 7, 31, 32, 33, 34, 35, 36, 37, 38, 39, 40, 41] (by decide +kernel) (by decide +kernel)
set_option maxRecDepth 20000 in
theorem gX4_performMoving_X4_has : GoodIn wsX4_performMoving (wsV RX4 119 RX4 yX4_has wsX4_has) := goodIn_app (goodIn_of _ (by decide +kernel)) ggX4_performMoving_X4_has
set_option maxRecDepth 20000 in
theorem ggX4_performMoving_X4_isAtOrBelow : GoodIn wsX4_performMoving wsX4_isAtOrBelow := goodIn_r _ [11, 12, 13, 14, 5, 15, 16, 17, 18, 19, 31, 32, 33, 34, 35, 36, 37, 38, 39, 40, 41] (by decide +kernel) (by decide +kernel)
set_option maxRecDepth 20000 in
theorem gX4_performMoving_X4_isAtOrBelow : GoodIn wsX4_performMoving (wsV RX4 127 RX4 yX4_isAtOrBelow wsX4_isAtOrBelow) := goodIn_app (goodIn_of _ (by decide +kernel)) ggX4_performMoving_X4_isAtOrBelow
set_option maxRecDepth 20000 in
theorem ggX4_performMoving_X4_settle : GoodIn wsX4_performMoving wsX4_settle := goodIn_r _ [23, 1, 16, 2, 3, 4, 5, 6, 7, 24, 25, 26, 27, 28, 29, 30, 31, 32, 33, 34, 35, 36, 37, 38, 39, 40, 41] (by decide +kernel) (by decide +kernel)
set_option maxRecDepth 20000 in
theorem gX4_performMoving_X4_settle : GoodIn wsX4_performMoving (wsV RX4 115 RX4 yX4_settle wsX4_settle) := goodIn_app (goodIn_of _ (by decide +kernel)) ggX4_performMoving_X4_settle
theorem dX4_performMoving_0 : decode cX4_performMoving 0 = .ok (.aload_n 0, 1) := by decide +kernel
theorem dX4_performMoving_1 : decode cX4_performMoving 1 = .ok (.iload_n 1, 1) := by decide +kernel
theorem dX4_performMoving_2 : decode cX4_performMoving 2 = .ok (.invokevirtual 119, 3) := by decide +kernel
theorem dX4_performMoving_5 : decode cX4_performMoving 5 = .ok (.ifCond .eq 25, 3) := by decide +kernel
theorem dX4_performMoving_8 : decode cX4_performMoving 8 = .ok (.aload_n 0, 1) := by decide +kernel
theorem dX4_performMoving_9 : decode cX4_performMoving 9 = .ok (.iload_n 2, 1) := by decide +kernel
theorem dX4_performMoving_10 : decode cX4_performMoving 10 = .ok (.iload_n 1, 1) := by decide +kernel
theorem dX4_performMoving_11 : decode cX4_performMoving 11 = .ok (.invokevirtual 127, 3) := by decide +kernel
theorem dX4_performMoving_14 : decode cX4_performMoving 14 = .ok (.ifCond .ne 16, 3) := by decide +kernel
theorem dX4_performMoving_17 : decode cX4_performMoving 17 = .ok (.aload_n 0, 1) := by decide +kernel
theorem dX4_performMoving_18 : decode cX4_performMoving 18 = .ok (.getfield 22, 3) := by decide +kernel
theorem dX4_performMoving_21 : decode cX4_performMoving 21 = .ok (.iload_n 1, 1) := by decide +kernel
theorem dX4_performMoving_22 : decode cX4_performMoving 22 = .ok (.iload_n 3, 1) := by decide +kernel
theorem dX4_performMoving_23 : decode cX4_performMoving 23 = .ok (.iastore, 1) := by decide +kernel
theorem dX4_performMoving_24 : decode cX4_performMoving 24 = .ok (.aload_n 0, 1) := by decide +kernel
theorem dX4_performMoving_25 : decode cX4_performMoving 25 = .ok (.iload_n 1, 1) := by decide +kernel
theorem dX4_performMoving_26 : decode cX4_performMoving 26 = .ok (.iload_n 2, 1) := by decide +kernel
theorem dX4_performMoving_27 : decode cX4_performMoving 27 = .ok (.invokevirtual 115, 3) := by decide +kernel
theorem dX4_performMoving_30 : decode cX4_performMoving 30 = .ok (.return_, 1) := by decide +kernel
set_option maxRecDepth 20000 in
theorem ggX4_performDeleting_X4_has : GoodIn wsX4_performDeleting wsX4_has := goodIn_r _ [8, 1, 21, 22, 23, 24, 25, 26, 27, 28, 29, 30, 31] (by decide +kernel) (by decide +kernel)
set_option maxRecDepth 20000 in
theorem gX4_performDeleting_X4_has : GoodIn wsX4_performDeleting (wsV RX4 119 RX4 yX4_has wsX4_has) := goodIn_app (goodIn_of _ (by decide +kernel)) ggX4_performDeleting_X4_has
set_option maxRecDepth 20000 in
theorem ggX4_performDeleting_X4_settle : GoodIn wsX4_performDeleting wsX4_settle := goodIn_r _ [12, 13, 2, 4, 5, 6, 7, 8, 1, 14, 15, 16, 17, 18, 19, 20, 21, 22, 23, 24, 25, 26, 27, 28, 29, 30, 31] (by decide +kernel) (by decide +kernel)
set_option maxRecDepth 20000 in
theorem gX4_performDeleting_X4_settle : GoodIn wsX4_performDeleting (wsV RX4 115 RX4 yX4_settle wsX4_settle) := goodIn_app (goodIn_of _ (by decide +kernel)) ggX4_performDeleting_X4_settle
theorem dX4_performDeleting_0 : decode cX4_performDeleting 0 = .ok (.aload_n 0, 1) := by decide +kernel
theorem dX4_performDeleting_1 : decode cX4_performDeleting 1 = .ok (.iload_n 1, 1) := by decide +kernel
theorem dX4_performDeleting_2 : decode cX4_performDeleting 2 = .ok (.invokevirtual 119, 3) := by decide +kernel
theorem dX4_performDeleting_5 : decode cX4_performDeleting 5 = .ok (.ifCond .ne 4, 3) := by decide +kernel
theorem dX4_performDeleting_8 : decode cX4_performDeleting 8 = .ok (.return_, 1) := by decide +kernel
theorem dX4_performDeleting_9 : decode cX4_performDeleting 9 = .ok (.aload_n 0, 1) := by decide +kernel
theorem dX4_performDeleting_10 : decode cX4_performDeleting 10 = .ok (.getfield 15, 3) := by decide +kernel
theorem dX4_performDeleting_13 : decode cX4_performDeleting 13 = .ok (.iload_n 1, 1) := by decide +kernel
theorem dX4_performDeleting_14 : decode cX4_performDeleting 14 = .ok (.iconst 0, 1) := by decide +kernel
theorem dX4_performDeleting_15 : decode cX4_performDeleting 15 = .ok (.bastore, 1) := by decide +kernel
theorem dX4_performDeleting_16 : decode cX4_performDeleting 16 = .ok (.aload_n 0, 1) := by decide +kernel
theorem dX4_performDeleting_17 : decode cX4_performDeleting 17 = .ok (.getfield 19, 3) := by decide +kernel
theorem dX4_performDeleting_20 : decode cX4_performDeleting 20 = .ok (.iload_n 1, 1) := by decide +kernel
theorem dX4_performDeleting_21 : decode cX4_performDeleting 21 = .ok (.iconst (-1), 1) := by decide +kernel
theorem dX4_performDeleting_22 : decode cX4_performDeleting 22 = .ok (.iastore, 1) := by decide +kernel
theorem dX4_performDeleting_23 : decode cX4_performDeleting 23 = .ok (.aload_n 0, 1) := by decide +kernel
theorem dX4_performDeleting_24 : decode cX4_performDeleting 24 = .ok (.dup, 1) := by decide +kernel
theorem dX4_performDeleting_25 : decode cX4_performDeleting 25 = .ok (.getfield 52, 3) := by decide +kernel
theorem dX4_performDeleting_28 : decode cX4_performDeleting 28 = .ok (.iconst 1, 1) := by decide +kernel
theorem dX4_performDeleting_29 : decode cX4_performDeleting 29 = .ok (.isub, 1) := by decide +kernel
theorem dX4_performDeleting_30 : decode cX4_performDeleting 30 = .ok (.putfield 52, 3) := by decide +kernel
theorem dX4_performDeleting_33 : decode cX4_performDeleting 33 = .ok (.iconst 0, 1) := by decide +kernel
theorem dX4_performDeleting_34 : decode cX4_performDeleting 34 = .ok (.istore_n 2, 1) := by decide +kernel
theorem dX4_performDeleting_35 : decode cX4_performDeleting 35 = .ok (.iload_n 2, 1) := by decide +kernel
theorem dX4_performDeleting_36 : decode cX4_performDeleting 36 = .ok (.bipush 42, 2) := by decide +kernel
theorem dX4_performDeleting_38 : decode cX4_performDeleting 38 = .ok (.if_icmp .ge 25, 3) := by decide +kernel
theorem dX4_performDeleting_41 : decode cX4_performDeleting 41 = .ok (.aload_n 0, 1) := by decide +kernel
theorem dX4_performDeleting_42 : decode cX4_performDeleting 42 = .ok (.getfield 19, 3) := by decide +kernel
theorem dX4_performDeleting_45 : decode cX4_performDeleting 45 = .ok (.iload_n 2, 1) := by decide +kernel
theorem dX4_performDeleting_46 : decode cX4_performDeleting 46 = .ok (.iaload, 1) := by decide +kernel
theorem dX4_performDeleting_47 : decode cX4_performDeleting 47 = .ok (.iload_n 1, 1) := by decide +kernel
theorem dX4_performDeleting_48 : decode cX4_performDeleting 48 = .ok (.if_icmp .ne 9, 3) := by decide +kernel
theorem dX4_performDeleting_51 : decode cX4_performDeleting 51 = .ok (.aload_n 0, 1) := by decide +kernel
theorem dX4_performDeleting_52 : decode cX4_performDeleting 52 = .ok (.iload_n 2, 1) := by decide +kernel
theorem dX4_performDeleting_53 : decode cX4_performDeleting 53 = .ok (.iconst 1, 1) := by decide +kernel
theorem dX4_performDeleting_54 : decode cX4_performDeleting 54 = .ok (.invokevirtual 115, 3) := by decide +kernel
theorem dX4_performDeleting_57 : decode cX4_performDeleting 57 = .ok (.iinc 2 1, 3) := by decide +kernel
theorem dX4_performDeleting_60 : decode cX4_performDeleting 60 = .ok (.goto (-25), 3) := by decide +kernel
theorem dX4_performDeleting_63 : decode cX4_performDeleting 63 = .ok (.return_, 1) := by decide +kernel
set_option maxRecDepth 20000 in
theorem ggX4_settle_X4_has : GoodIn wsX4_settle wsX4_has := goodIn_r _ [7, 8, 16, 17, 18, 19, 20, 21, 22, 23, 24, 25, 26] (by decide +kernel) (by decide +kernel)
set_option maxRecDepth 20000 in
theorem gX4_settle_X4_has : GoodIn wsX4_settle (wsV RX4 119 RX4 yX4_has wsX4_has) := goodIn_app (goodIn_of _ (by decide +kernel)) ggX4_settle_X4_has
set_option maxRecDepth 20000 in
theorem ggX4_settle_X4_childWithLabelLike : GoodIn wsX4_settle wsX4_childWithLabelLike := goodIn_r _ [12, 2, 1, 13, 14, 6, 15, 16, 17, 18, 19, 20, 21, 22, 23, 24, 25, 26] (by decide +kernel) (by decide +kernel)
set_option maxRecDepth 20000 in
theorem gX4_settle_X4_childWithLabelLike : GoodIn wsX4_settle (wsV RX4 130 RX4 yX4_childWithLabelLike wsX4_childWithLabelLike) := goodIn_app (goodIn_of _ (by decide +kernel)) ggX4_settle_X4_childWithLabelLike
theorem dX4_settle_0 : decode cX4_settle 0 = .ok (.aload_n 0, 1) := by decide +kernel
theorem dX4_settle_1 : decode cX4_settle 1 = .ok (.iload_n 1, 1) := by decide +kernel
theorem dX4_settle_2 : decode cX4_settle 2 = .ok (.invokevirtual 119, 3) := by decide +kernel
theorem dX4_settle_5 : decode cX4_settle 5 = .ok (.ifCond .ne 4, 3) := by decide +kernel
theorem dX4_settle_8 : decode cX4_settle 8 = .ok (.return_, 1) := by decide +kernel
theorem dX4_settle_9 : decode cX4_settle 9 = .ok (.aload_n 0, 1) := by decide +kernel
theorem dX4_settle_10 : decode cX4_settle 10 = .ok (.iload_n 2, 1) := by decide +kernel
theorem dX4_settle_11 : decode cX4_settle 11 = .ok (.invokevirtual 119, 3) := by decide +kernel
theorem dX4_settle_14 : decode cX4_settle 14 = .ok (.ifCond .eq 7, 3) := by decide +kernel
theorem dX4_settle_17 : decode cX4_settle 17 = .ok (.iload_n 2, 1) := by decide +kernel
theorem dX4_settle_18 : decode cX4_settle 18 = .ok (.goto 4, 3) := by decide +kernel
theorem dX4_settle_21 : decode cX4_settle 21 = .ok (.iconst 1, 1) := by decide +kernel
theorem dX4_settle_22 : decode cX4_settle 22 = .ok (.istore_n 3, 1) := by decide +kernel
theorem dX4_settle_23 : decode cX4_settle 23 = .ok (.aload_n 0, 1) := by decide +kernel
theorem dX4_settle_24 : decode cX4_settle 24 = .ok (.iload_n 3, 1) := by decide +kernel
theorem dX4_settle_25 : decode cX4_settle 25 = .ok (.aload_n 0, 1) := by decide +kernel
theorem dX4_settle_26 : decode cX4_settle 26 = .ok (.getfield 22, 3) := by decide +kernel
theorem dX4_settle_29 : decode cX4_settle 29 = .ok (.iload_n 1, 1) := by decide +kernel
theorem dX4_settle_30 : decode cX4_settle 30 = .ok (.iaload, 1) := by decide +kernel
theorem dX4_settle_31 : decode cX4_settle 31 = .ok (.iload_n 1, 1) := by decide +kernel
theorem dX4_settle_32 : decode cX4_settle 32 = .ok (.invokevirtual 130, 3) := by decide +kernel
theorem dX4_settle_35 : decode cX4_settle 35 = .ok (.iconst (-1), 1) := by decide +kernel
theorem dX4_settle_36 : decode cX4_settle 36 = .ok (.if_icmp .eq 10, 3) := by decide +kernel
theorem dX4_settle_39 : decode cX4_settle 39 = .ok (.aload_n 0, 1) := by decide +kernel
theorem dX4_settle_40 : decode cX4_settle 40 = .ok (.getfield 22, 3) := by decide +kernel
theorem dX4_settle_43 : decode cX4_settle 43 = .ok (.iload_n 1, 1) := by decide +kernel
theorem dX4_settle_44 : decode cX4_settle 44 = .ok (.iconst (-1), 1) := by decide +kernel
theorem dX4_settle_45 : decode cX4_settle 45 = .ok (.iastore, 1) := by decide +kernel
theorem dX4_settle_46 : decode cX4_settle 46 = .ok (.aload_n 0, 1) := by decide +kernel
theorem dX4_settle_47 : decode cX4_settle 47 = .ok (.getfield 19, 3) := by decide +kernel
theorem dX4_settle_50 : decode cX4_settle 50 = .ok (.iload_n 1, 1) := by decide +kernel
theorem dX4_settle_51 : decode cX4_settle 51 = .ok (.iload_n 3, 1) := by decide +kernel
theorem dX4_settle_52 : decode cX4_settle 52 = .ok (.iastore, 1) := by decide +kernel
theorem dX4_settle_53 : decode cX4_settle 53 = .ok (.return_, 1) := by decide +kernel
theorem dX4_has_0 : decode cX4_has 0 = .ok (.iload_n 1, 1) := by decide +kernel
theorem dX4_has_1 : decode cX4_has 1 = .ok (.ifCond .lt 22, 3) := by decide +kernel
theorem dX4_has_4 : decode cX4_has 4 = .ok (.iload_n 1, 1) := by decide +kernel
theorem dX4_has_5 : decode cX4_has 5 = .ok (.bipush 42, 2) := by decide +kernel
theorem dX4_has_7 : decode cX4_has 7 = .ok (.if_icmp .ge 16, 3) := by decide +kernel
theorem dX4_has_10 : decode cX4_has 10 = .ok (.aload_n 0, 1) := by decide +kernel
theorem dX4_has_11 : decode cX4_has 11 = .ok (.getfield 15, 3) := by decide +kernel
theorem dX4_has_14 : decode cX4_has 14 = .ok (.iload_n 1, 1) := by decide +kernel
theorem dX4_has_15 : decode cX4_has 15 = .ok (.baload, 1) := by decide +kernel
theorem dX4_has_16 : decode cX4_has 16 = .ok (.ifCond .eq 7, 3) := by decide +kernel
theorem dX4_has_19 : decode cX4_has 19 = .ok (.iconst 1, 1) := by decide +kernel
theorem dX4_has_20 : decode cX4_has 20 = .ok (.goto 4, 3) := by decide +kernel
theorem dX4_has_23 : decode cX4_has 23 = .ok (.iconst 0, 1) := by decide +kernel
theorem dX4_has_24 : decode cX4_has 24 = .ok (.ireturn, 1) := by decide +kernel
set_option maxRecDepth 20000 in
theorem ggX4_parentAt_X5_at : GoodIn wsX4_parentAt wsX5_at := goodIn_r _ [4] (by decide +kernel) (by decide +kernel)
set_option maxRecDepth 20000 in
theorem gX4_parentAt_X5_at_n58 : GoodIn wsX4_parentAt (wsX5_at) := ggX4_parentAt_X5_at
theorem dX4_parentAt_0 : decode cX4_parentAt 0 = .ok (.aload_n 0, 1) := by decide +kernel
theorem dX4_parentAt_1 : decode cX4_parentAt 1 = .ok (.getfield 19, 3) := by decide +kernel
theorem dX4_parentAt_4 : decode cX4_parentAt 4 = .ok (.iload_n 1, 1) := by decide +kernel
theorem dX4_parentAt_5 : decode cX4_parentAt 5 = .ok (.invokestatic 58, 3) := by decide +kernel
theorem dX4_parentAt_8 : decode cX4_parentAt 8 = .ok (.ireturn, 1) := by decide +kernel
set_option maxRecDepth 20000 in
theorem ggX4_labelAt_X5_at : GoodIn wsX4_labelAt wsX5_at := goodIn_r _ [4] (by decide +kernel) (by decide +kernel)
set_option maxRecDepth 20000 in
theorem gX4_labelAt_X5_at_n58 : GoodIn wsX4_labelAt (wsX5_at) := ggX4_labelAt_X5_at
theorem dX4_labelAt_0 : decode cX4_labelAt 0 = .ok (.aload_n 0, 1) := by decide +kernel
theorem dX4_labelAt_1 : decode cX4_labelAt 1 = .ok (.getfield 22, 3) := by decide +kernel
theorem dX4_labelAt_4 : decode cX4_labelAt 4 = .ok (.iload_n 1, 1) := by decide +kernel
theorem dX4_labelAt_5 : decode cX4_labelAt 5 = .ok (.invokestatic 58, 3) := by decide +kernel
theorem dX4_labelAt_8 : decode cX4_labelAt 8 = .ok (.ireturn, 1) := by decide +kernel
set_option maxRecDepth 20000 in
theorem ggX4_valueAt_X5_at : GoodIn wsX4_valueAt wsX5_at := goodIn_r _ [4] (by decide +kernel) (by decide +kernel)
set_option maxRecDepth 20000 in
theorem gX4_valueAt_X5_at_n58 : GoodIn wsX4_valueAt (wsX5_at) := ggX4_valueAt_X5_at
theorem dX4_valueAt_0 : decode cX4_valueAt 0 = .ok (.aload_n 0, 1) := by decide +kernel
theorem dX4_valueAt_1 : decode cX4_valueAt 1 = .ok (.getfield 28, 3) := by decide +kernel
theorem dX4_valueAt_4 : decode cX4_valueAt 4 = .ok (.iload_n 1, 1) := by decide +kernel
theorem dX4_valueAt_5 : decode cX4_valueAt 5 = .ok (.iconst 4, 1) := by decide +kernel
theorem dX4_valueAt_6 : decode cX4_valueAt 6 = .ok (.imul, 1) := by decide +kernel
theorem dX4_valueAt_7 : decode cX4_valueAt 7 = .ok (.iload_n 2, 1) := by decide +kernel
theorem dX4_valueAt_8 : decode cX4_valueAt 8 = .ok (.iadd, 1) := by decide +kernel
theorem dX4_valueAt_9 : decode cX4_valueAt 9 = .ok (.invokestatic 58, 3) := by decide +kernel
theorem dX4_valueAt_12 : decode cX4_valueAt 12 = .ok (.ireturn, 1) := by decide +kernel
set_option maxRecDepth 20000 in
theorem ggX4_mayHold_X5_at : GoodIn wsX4_mayHold wsX5_at := goodIn_r _ [5] (by decide +kernel) (by decide +kernel)
set_option maxRecDepth 20000 in
theorem gX4_mayHold_X5_at_n58 : GoodIn wsX4_mayHold (wsX5_at) := ggX4_mayHold_X5_at
set_option maxRecDepth 20000 in
theorem ggX4_mayHold_X0_allows : GoodIn wsX4_mayHold wsX0_allows := goodIn_r _ [10, 11, 12, 13, 9, 14, 26, 27] (by decide +kernel) (by decide +kernel)
set_option maxRecDepth 20000 in
theorem gX4_mayHold_X0_allows : GoodIn wsX4_mayHold (wsV RX4 134 RX0 yX0_allows wsX0_allows) := goodIn_app (goodIn_of _ (by decide +kernel)) ggX4_mayHold_X0_allows
theorem dX4_mayHold_0 : decode cX4_mayHold 0 = .ok (.aload_n 0, 1) := by decide +kernel
theorem dX4_mayHold_1 : decode cX4_mayHold 1 = .ok (.getfield 39, 3) := by decide +kernel
theorem dX4_mayHold_4 : decode cX4_mayHold 4 = .ok (.aload_n 0, 1) := by decide +kernel
theorem dX4_mayHold_5 : decode cX4_mayHold 5 = .ok (.getfield 25, 3) := by decide +kernel
theorem dX4_mayHold_8 : decode cX4_mayHold 8 = .ok (.iload_n 1, 1) := by decide +kernel
theorem dX4_mayHold_9 : decode cX4_mayHold 9 = .ok (.invokestatic 58, 3) := by decide +kernel
theorem dX4_mayHold_12 : decode cX4_mayHold 12 = .ok (.iload_n 2, 1) := by decide +kernel
theorem dX4_mayHold_13 : decode cX4_mayHold 13 = .ok (.invokevirtual 134, 3) := by decide +kernel
theorem dX4_mayHold_16 : decode cX4_mayHold 16 = .ok (.ireturn, 1) := by decide +kernel
set_option maxRecDepth 20000 in
theorem ggX4_hasAllNeeded_X5_at : GoodIn wsX4_hasAllNeeded wsX5_at := goodIn_r _ [5] (by decide +kernel) (by decide +kernel)
set_option maxRecDepth 20000 in
theorem gX4_hasAllNeeded_X5_at_n58 : GoodIn wsX4_hasAllNeeded (wsX5_at) := ggX4_hasAllNeeded_X5_at
set_option maxRecDepth 20000 in
theorem ggX4_hasAllNeeded_X0_needs : GoodIn wsX4_hasAllNeeded wsX0_needs := goodIn_r _ [10, 11, 12, 13, 9, 14, 32, 33] (by decide +kernel) (by decide +kernel)
set_option maxRecDepth 20000 in
theorem gX4_hasAllNeeded_X0_needs : GoodIn wsX4_hasAllNeeded (wsV RX4 139 RX0 yX0_needs wsX0_needs) := goodIn_app (goodIn_of _ (by decide +kernel)) ggX4_hasAllNeeded_X0_needs
set_option maxRecDepth 20000 in
theorem ggX4_hasAllNeeded_X4_valueAt : GoodIn wsX4_hasAllNeeded wsX4_valueAt := goodIn_r _ [19, 20, 3, 4, 5, 21, 22, 23, 24, 25, 26, 27, 28, 29, 30, 31] (by decide +kernel) (by decide +kernel)
set_option maxRecDepth 20000 in
theorem gX4_hasAllNeeded_X4_valueAt : GoodIn wsX4_hasAllNeeded (wsV RX4 142 RX4 yX4_valueAt wsX4_valueAt) := goodIn_app (goodIn_of _ (by decide +kernel)) ggX4_hasAllNeeded_X4_valueAt
theorem dX4_hasAllNeeded_0 : decode cX4_hasAllNeeded 0 = .ok (.aload_n 0, 1) := by decide +kernel
theorem dX4_hasAllNeeded_1 : decode cX4_hasAllNeeded 1 = .ok (.getfield 25, 3) := by decide +kernel
theorem dX4_hasAllNeeded_4 : decode cX4_hasAllNeeded 4 = .ok (.iload_n 1, 1) := by decide +kernel
theorem dX4_hasAllNeeded_5 : decode cX4_hasAllNeeded 5 = .ok (.invokestatic 58, 3) := by decide +kernel
theorem dX4_hasAllNeeded_8 : decode cX4_hasAllNeeded 8 = .ok (.istore_n 2, 1) := by decide +kernel
theorem dX4_hasAllNeeded_9 : decode cX4_hasAllNeeded 9 = .ok (.iconst 0, 1) := by decide +kernel
theorem dX4_hasAllNeeded_10 : decode cX4_hasAllNeeded 10 = .ok (.istore_n 3, 1) := by decide +kernel
theorem dX4_hasAllNeeded_11 : decode cX4_hasAllNeeded 11 = .ok (.iload_n 3, 1) := by decide +kernel
theorem dX4_hasAllNeeded_12 : decode cX4_hasAllNeeded 12 = .ok (.iconst 4, 1) := by decide +kernel
theorem dX4_hasAllNeeded_13 : decode cX4_hasAllNeeded 13 = .ok (.if_icmp .ge 33, 3) := by decide +kernel
theorem dX4_hasAllNeeded_16 : decode cX4_hasAllNeeded 16 = .ok (.aload_n 0, 1) := by decide +kernel
theorem dX4_hasAllNeeded_17 : decode cX4_hasAllNeeded 17 = .ok (.getfield 39, 3) := by decide +kernel
theorem dX4_hasAllNeeded_20 : decode cX4_hasAllNeeded 20 = .ok (.iload_n 2, 1) := by decide +kernel
theorem dX4_hasAllNeeded_21 : decode cX4_hasAllNeeded 21 = .ok (.iload_n 3, 1) := by decide +kernel
theorem dX4_hasAllNeeded_22 : decode cX4_hasAllNeeded 22 = .ok (.invokevirtual 139, 3) := by decide +kernel
theorem dX4_hasAllNeeded_25 : decode cX4_hasAllNeeded 25 = .ok (.ifCond .eq 15, 3) := by decide +kernel
theorem dX4_hasAllNeeded_28 : decode cX4_hasAllNeeded 28 = .ok (.aload_n 0, 1) := by decide +kernel
theorem dX4_hasAllNeeded_29 : decode cX4_hasAllNeeded 29 = .ok (.iload_n 1, 1) := by decide +kernel
theorem dX4_hasAllNeeded_30 : decode cX4_hasAllNeeded 30 = .ok (.iload_n 3, 1) := by decide +kernel
theorem dX4_hasAllNeeded_31 : decode cX4_hasAllNeeded 31 = .ok (.invokevirtual 142, 3) := by decide +kernel
theorem dX4_hasAllNeeded_34 : decode cX4_hasAllNeeded 34 = .ok (.iconst (-1), 1) := by decide +kernel
theorem dX4_hasAllNeeded_35 : decode cX4_hasAllNeeded 35 = .ok (.if_icmp .ne 5, 3) := by decide +kernel
theorem dX4_hasAllNeeded_38 : decode cX4_hasAllNeeded 38 = .ok (.iconst 0, 1) := by decide +kernel
theorem dX4_hasAllNeeded_39 : decode cX4_hasAllNeeded 39 = .ok (.ireturn, 1) := by decide +kernel
theorem dX4_hasAllNeeded_40 : decode cX4_hasAllNeeded 40 = .ok (.iinc 3 1, 3) := by decide +kernel
theorem dX4_hasAllNeeded_43 : decode cX4_hasAllNeeded 43 = .ok (.goto (-32), 3) := by decide +kernel
theorem dX4_hasAllNeeded_46 : decode cX4_hasAllNeeded 46 = .ok (.iconst 1, 1) := by decide +kernel
theorem dX4_hasAllNeeded_47 : decode cX4_hasAllNeeded 47 = .ok (.ireturn, 1) := by decide +kernel
set_option maxRecDepth 20000 in
theorem ggX4_isAtOrBelow_X4_parentAt : GoodIn wsX4_isAtOrBelow wsX4_parentAt := goodIn_r _ [5, 6, 7, 8, 9, 10, 11, 12, 13, 14, 15, 16, 17, 18, 19, 20] (by decide +kernel) (by decide +kernel)
set_option maxRecDepth 20000 in
theorem gX4_isAtOrBelow_X4_parentAt : GoodIn wsX4_isAtOrBelow (wsV RX4 145 RX4 yX4_parentAt wsX4_parentAt) := goodIn_app (goodIn_of _ (by decide +kernel)) ggX4_isAtOrBelow_X4_parentAt
theorem dX4_isAtOrBelow_0 : decode cX4_isAtOrBelow 0 = .ok (.iload_n 1, 1) := by decide +kernel
theorem dX4_isAtOrBelow_1 : decode cX4_isAtOrBelow 1 = .ok (.istore_n 3, 1) := by decide +kernel
theorem dX4_isAtOrBelow_2 : decode cX4_isAtOrBelow 2 = .ok (.iconst 0, 1) := by decide +kernel
theorem dX4_isAtOrBelow_3 : decode cX4_isAtOrBelow 3 = .ok (.istore 4, 2) := by decide +kernel
theorem dX4_isAtOrBelow_5 : decode cX4_isAtOrBelow 5 = .ok (.iload 4, 2) := by decide +kernel
theorem dX4_isAtOrBelow_7 : decode cX4_isAtOrBelow 7 = .ok (.bipush 42, 2) := by decide +kernel
theorem dX4_isAtOrBelow_9 : decode cX4_isAtOrBelow 9 = .ok (.if_icmp .ge 27, 3) := by decide +kernel
theorem dX4_isAtOrBelow_12 : decode cX4_isAtOrBelow 12 = .ok (.iload_n 3, 1) := by decide +kernel
theorem dX4_isAtOrBelow_13 : decode cX4_isAtOrBelow 13 = .ok (.iconst (-1), 1) := by decide +kernel
theorem dX4_isAtOrBelow_14 : decode cX4_isAtOrBelow 14 = .ok (.if_icmp .eq 22, 3) := by decide +kernel
theorem dX4_isAtOrBelow_17 : decode cX4_isAtOrBelow 17 = .ok (.iload_n 3, 1) := by decide +kernel
theorem dX4_isAtOrBelow_18 : decode cX4_isAtOrBelow 18 = .ok (.iload_n 2, 1) := by decide +kernel
theorem dX4_isAtOrBelow_19 : decode cX4_isAtOrBelow 19 = .ok (.if_icmp .ne 5, 3) := by decide +kernel
theorem dX4_isAtOrBelow_22 : decode cX4_isAtOrBelow 22 = .ok (.iconst 1, 1) := by decide +kernel
theorem dX4_isAtOrBelow_23 : decode cX4_isAtOrBelow 23 = .ok (.ireturn, 1) := by decide +kernel
theorem dX4_isAtOrBelow_24 : decode cX4_isAtOrBelow 24 = .ok (.aload_n 0, 1) := by decide +kernel
theorem dX4_isAtOrBelow_25 : decode cX4_isAtOrBelow 25 = .ok (.iload_n 3, 1) := by decide +kernel
theorem dX4_isAtOrBelow_26 : decode cX4_isAtOrBelow 26 = .ok (.invokevirtual 145, 3) := by decide +kernel
theorem dX4_isAtOrBelow_29 : decode cX4_isAtOrBelow 29 = .ok (.istore_n 3, 1) := by decide +kernel
theorem dX4_isAtOrBelow_30 : decode cX4_isAtOrBelow 30 = .ok (.iinc 4 1, 3) := by decide +kernel
theorem dX4_isAtOrBelow_33 : decode cX4_isAtOrBelow 33 = .ok (.goto (-28), 3) := by decide +kernel
theorem dX4_isAtOrBelow_36 : decode cX4_isAtOrBelow 36 = .ok (.iconst 0, 1) := by decide +kernel
theorem dX4_isAtOrBelow_37 : decode cX4_isAtOrBelow 37 = .ok (.ireturn, 1) := by decide +kernel
theorem dX4_hasChild_0 : decode cX4_hasChild 0 = .ok (.iconst 0, 1) := by decide +kernel
theorem dX4_hasChild_1 : decode cX4_hasChild 1 = .ok (.istore_n 2, 1) := by decide +kernel
theorem dX4_hasChild_2 : decode cX4_hasChild 2 = .ok (.iload_n 2, 1) := by decide +kernel
theorem dX4_hasChild_3 : decode cX4_hasChild 3 = .ok (.bipush 42, 2) := by decide +kernel
theorem dX4_hasChild_5 : decode cX4_hasChild 5 = .ok (.if_icmp .ge 21, 3) := by decide +kernel
theorem dX4_hasChild_8 : decode cX4_hasChild 8 = .ok (.aload_n 0, 1) := by decide +kernel
theorem dX4_hasChild_9 : decode cX4_hasChild 9 = .ok (.getfield 19, 3) := by decide +kernel
theorem dX4_hasChild_12 : decode cX4_hasChild 12 = .ok (.iload_n 2, 1) := by decide +kernel
theorem dX4_hasChild_13 : decode cX4_hasChild 13 = .ok (.iaload, 1) := by decide +kernel
theorem dX4_hasChild_14 : decode cX4_hasChild 14 = .ok (.iload_n 1, 1) := by decide +kernel
theorem dX4_hasChild_15 : decode cX4_hasChild 15 = .ok (.if_icmp .ne 5, 3) := by decide +kernel
theorem dX4_hasChild_18 : decode cX4_hasChild 18 = .ok (.iconst 1, 1) := by decide +kernel
theorem dX4_hasChild_19 : decode cX4_hasChild 19 = .ok (.ireturn, 1) := by decide +kernel
theorem dX4_hasChild_20 : decode cX4_hasChild 20 = .ok (.iinc 2 1, 3) := by decide +kernel
theorem dX4_hasChild_23 : decode cX4_hasChild 23 = .ok (.goto (-21), 3) := by decide +kernel
theorem dX4_hasChild_26 : decode cX4_hasChild 26 = .ok (.iconst 0, 1) := by decide +kernel
theorem dX4_hasChild_27 : decode cX4_hasChild 27 = .ok (.ireturn, 1) := by decide +kernel
set_option maxRecDepth 20000 in
theorem ggX4_childWithLabelLike_X4_areLike : GoodIn wsX4_childWithLabelLike wsX4_areLike := goodIn_r _ [6] (by decide +kernel) (by decide +kernel)
set_option maxRecDepth 20000 in
theorem gX4_childWithLabelLike_X4_areLike : GoodIn wsX4_childWithLabelLike (va_wsS RX4 148 yX4_areLike wsX4_areLike) := goodIn_app (goodIn_of _ (by decide +kernel)) ggX4_childWithLabelLike_X4_areLike
theorem dX4_childWithLabelLike_0 : decode cX4_childWithLabelLike 0 = .ok (.iconst 0, 1) := by decide +kernel
theorem dX4_childWithLabelLike_1 : decode cX4_childWithLabelLike 1 = .ok (.istore 4, 2) := by decide +kernel
theorem dX4_childWithLabelLike_3 : decode cX4_childWithLabelLike 3 = .ok (.iload 4, 2) := by decide +kernel
theorem dX4_childWithLabelLike_5 : decode cX4_childWithLabelLike 5 = .ok (.bipush 42, 2) := by decide +kernel
theorem dX4_childWithLabelLike_7 : decode cX4_childWithLabelLike 7 = .ok (.if_icmp .ge 43, 3) := by decide +kernel
theorem dX4_childWithLabelLike_10 : decode cX4_childWithLabelLike 10 = .ok (.aload_n 0, 1) := by decide +kernel
theorem dX4_childWithLabelLike_11 : decode cX4_childWithLabelLike 11 = .ok (.getfield 19, 3) := by decide +kernel
theorem dX4_childWithLabelLike_14 : decode cX4_childWithLabelLike 14 = .ok (.iload 4, 2) := by decide +kernel
theorem dX4_childWithLabelLike_16 : decode cX4_childWithLabelLike 16 = .ok (.iaload, 1) := by decide +kernel
theorem dX4_childWithLabelLike_17 : decode cX4_childWithLabelLike 17 = .ok (.iload_n 1, 1) := by decide +kernel
theorem dX4_childWithLabelLike_18 : decode cX4_childWithLabelLike 18 = .ok (.if_icmp .ne 26, 3) := by decide +kernel
theorem dX4_childWithLabelLike_21 : decode cX4_childWithLabelLike 21 = .ok (.iload 4, 2) := by decide +kernel
theorem dX4_childWithLabelLike_23 : decode cX4_childWithLabelLike 23 = .ok (.iload_n 3, 1) := by decide +kernel
theorem dX4_childWithLabelLike_24 : decode cX4_childWithLabelLike 24 = .ok (.if_icmp .eq 20, 3) := by decide +kernel
theorem dX4_childWithLabelLike_27 : decode cX4_childWithLabelLike 27 = .ok (.aload_n 0, 1) := by decide +kernel
theorem dX4_childWithLabelLike_28 : decode cX4_childWithLabelLike 28 = .ok (.getfield 22, 3) := by decide +kernel
theorem dX4_childWithLabelLike_31 : decode cX4_childWithLabelLike 31 = .ok (.iload 4, 2) := by decide +kernel
theorem dX4_childWithLabelLike_33 : decode cX4_childWithLabelLike 33 = .ok (.iaload, 1) := by decide +kernel
theorem dX4_childWithLabelLike_34 : decode cX4_childWithLabelLike 34 = .ok (.iload_n 2, 1) := by decide +kernel
theorem dX4_childWithLabelLike_35 : decode cX4_childWithLabelLike 35 = .ok (.invokestatic 148, 3) := by decide +kernel
theorem dX4_childWithLabelLike_38 : decode cX4_childWithLabelLike 38 = .ok (.ifCond .eq 6, 3) := by decide +kernel
theorem dX4_childWithLabelLike_41 : decode cX4_childWithLabelLike 41 = .ok (.iload 4, 2) := by decide +kernel
theorem dX4_childWithLabelLike_43 : decode cX4_childWithLabelLike 43 = .ok (.ireturn, 1) := by decide +kernel
theorem dX4_childWithLabelLike_44 : decode cX4_childWithLabelLike 44 = .ok (.iinc 4 1, 3) := by decide +kernel
theorem dX4_childWithLabelLike_47 : decode cX4_childWithLabelLike 47 = .ok (.goto (-44), 3) := by decide +kernel
theorem dX4_childWithLabelLike_50 : decode cX4_childWithLabelLike 50 = .ok (.iconst (-1), 1) := by decide +kernel
theorem dX4_childWithLabelLike_51 : decode cX4_childWithLabelLike 51 = .ok (.ireturn, 1) := by decide +kernel
theorem dX4_areLike_0 : decode cX4_areLike 0 = .ok (.iload_n 0, 1) := by decide +kernel
theorem dX4_areLike_1 : decode cX4_areLike 1 = .ok (.iconst (-1), 1) := by decide +kernel
theorem dX4_areLike_2 : decode cX4_areLike 2 = .ok (.if_icmp .eq 23, 3) := by decide +kernel
theorem dX4_areLike_5 : decode cX4_areLike 5 = .ok (.iload_n 1, 1) := by decide +kernel
theorem dX4_areLike_6 : decode cX4_areLike 6 = .ok (.iconst (-1), 1) := by decide +kernel
theorem dX4_areLike_7 : decode cX4_areLike 7 = .ok (.if_icmp .eq 18, 3) := by decide +kernel
theorem dX4_areLike_10 : decode cX4_areLike 10 = .ok (.iload_n 0, 1) := by decide +kernel
theorem dX4_areLike_11 : decode cX4_areLike 11 = .ok (.bipush 50, 2) := by decide +kernel
theorem dX4_areLike_13 : decode cX4_areLike 13 = .ok (.irem, 1) := by decide +kernel
theorem dX4_areLike_14 : decode cX4_areLike 14 = .ok (.iload_n 1, 1) := by decide +kernel
theorem dX4_areLike_15 : decode cX4_areLike 15 = .ok (.bipush 50, 2) := by decide +kernel
theorem dX4_areLike_17 : decode cX4_areLike 17 = .ok (.irem, 1) := by decide +kernel
theorem dX4_areLike_18 : decode cX4_areLike 18 = .ok (.if_icmp .ne 7, 3) := by decide +kernel
theorem dX4_areLike_21 : decode cX4_areLike 21 = .ok (.iconst 1, 1) := by decide +kernel
theorem dX4_areLike_22 : decode cX4_areLike 22 = .ok (.goto 4, 3) := by decide +kernel
theorem dX4_areLike_25 : decode cX4_areLike 25 = .ok (.iconst 0, 1) := by decide +kernel
theorem dX4_areLike_26 : decode cX4_areLike 26 = .ok (.ireturn, 1) := by decide +kernel
set_option maxRecDepth 20000 in
theorem ggX4_isSameAs_X4_hasSameEntry : GoodIn wsX4_isSameAs wsX4_hasSameEntry := goodIn_r _ [6, 7, 8, 9, 10, 5, 11, 12, 13, 14, 15, 16, 17, 18, 19, 20, 21, 22, 23, 24, 25, 26, 27, 28, 29, 30, 31, 32, 33, 34, 35, 36] (by decide +kernel) (by decide +kernel)
set_option maxRecDepth 20000 in
theorem gX4_isSameAs_X4_hasSameEntry : GoodIn wsX4_isSameAs (wsV RX4 151 RX4 yX4_hasSameEntry wsX4_hasSameEntry) := goodIn_app (goodIn_of _ (by decide +kernel)) ggX4_isSameAs_X4_hasSameEntry
theorem dX4_isSameAs_0 : decode cX4_isSameAs 0 = .ok (.iconst 0, 1) := by decide +kernel
theorem dX4_isSameAs_1 : decode cX4_isSameAs 1 = .ok (.istore_n 2, 1) := by decide +kernel
theorem dX4_isSameAs_2 : decode cX4_isSameAs 2 = .ok (.iload_n 2, 1) := by decide +kernel
theorem dX4_isSameAs_3 : decode cX4_isSameAs 3 = .ok (.bipush 42, 2) := by decide +kernel
theorem dX4_isSameAs_5 : decode cX4_isSameAs 5 = .ok (.if_icmp .ge 46, 3) := by decide +kernel
theorem dX4_isSameAs_8 : decode cX4_isSameAs 8 = .ok (.aload_n 0, 1) := by decide +kernel
theorem dX4_isSameAs_9 : decode cX4_isSameAs 9 = .ok (.getfield 15, 3) := by decide +kernel
theorem dX4_isSameAs_12 : decode cX4_isSameAs 12 = .ok (.iload_n 2, 1) := by decide +kernel
theorem dX4_isSameAs_13 : decode cX4_isSameAs 13 = .ok (.baload, 1) := by decide +kernel
theorem dX4_isSameAs_14 : decode cX4_isSameAs 14 = .ok (.aload_n 1, 1) := by decide +kernel
theorem dX4_isSameAs_15 : decode cX4_isSameAs 15 = .ok (.getfield 15, 3) := by decide +kernel
theorem dX4_isSameAs_18 : decode cX4_isSameAs 18 = .ok (.iload_n 2, 1) := by decide +kernel
theorem dX4_isSameAs_19 : decode cX4_isSameAs 19 = .ok (.baload, 1) := by decide +kernel
theorem dX4_isSameAs_20 : decode cX4_isSameAs 20 = .ok (.if_icmp .eq 5, 3) := by decide +kernel
theorem dX4_isSameAs_23 : decode cX4_isSameAs 23 = .ok (.iconst 0, 1) := by decide +kernel
theorem dX4_isSameAs_24 : decode cX4_isSameAs 24 = .ok (.ireturn, 1) := by decide +kernel
theorem dX4_isSameAs_25 : decode cX4_isSameAs 25 = .ok (.aload_n 0, 1) := by decide +kernel
theorem dX4_isSameAs_26 : decode cX4_isSameAs 26 = .ok (.getfield 15, 3) := by decide +kernel
theorem dX4_isSameAs_29 : decode cX4_isSameAs 29 = .ok (.iload_n 2, 1) := by decide +kernel
theorem dX4_isSameAs_30 : decode cX4_isSameAs 30 = .ok (.baload, 1) := by decide +kernel
theorem dX4_isSameAs_31 : decode cX4_isSameAs 31 = .ok (.ifCond .eq 14, 3) := by decide +kernel
theorem dX4_isSameAs_34 : decode cX4_isSameAs 34 = .ok (.aload_n 0, 1) := by decide +kernel
theorem dX4_isSameAs_35 : decode cX4_isSameAs 35 = .ok (.aload_n 1, 1) := by decide +kernel
theorem dX4_isSameAs_36 : decode cX4_isSameAs 36 = .ok (.iload_n 2, 1) := by decide +kernel
theorem dX4_isSameAs_37 : decode cX4_isSameAs 37 = .ok (.invokevirtual 151, 3) := by decide +kernel
theorem dX4_isSameAs_40 : decode cX4_isSameAs 40 = .ok (.ifCond .ne 5, 3) := by decide +kernel
theorem dX4_isSameAs_43 : decode cX4_isSameAs 43 = .ok (.iconst 0, 1) := by decide +kernel
theorem dX4_isSameAs_44 : decode cX4_isSameAs 44 = .ok (.ireturn, 1) := by decide +kernel
theorem dX4_isSameAs_45 : decode cX4_isSameAs 45 = .ok (.iinc 2 1, 3) := by decide +kernel
theorem dX4_isSameAs_48 : decode cX4_isSameAs 48 = .ok (.goto (-46), 3) := by decide +kernel
theorem dX4_isSameAs_51 : decode cX4_isSameAs 51 = .ok (.iconst 1, 1) := by decide +kernel
theorem dX4_isSameAs_52 : decode cX4_isSameAs 52 = .ok (.ireturn, 1) := by decide +kernel
set_option maxRecDepth 20000 in
theorem ggX4_hasSameEntry_X4_valueAt : GoodIn wsX4_hasSameEntry wsX4_valueAt := goodIn_r _ [6, 7, 8, 9, 10, 21, 22, 23, 24, 25, 26, 27, 28, 29, 30, 31] (by decide +kernel) (by decide +kernel)
set_option maxRecDepth 20000 in
theorem gX4_hasSameEntry_X4_valueAt : GoodIn wsX4_hasSameEntry (wsV RX4 142 RX4 yX4_valueAt wsX4_valueAt) := goodIn_app (goodIn_of _ (by decide +kernel)) ggX4_hasSameEntry_X4_valueAt
set_option maxRecDepth 20000 in
theorem ggX4_hasSameEntry_X4_parentAt : GoodIn wsX4_hasSameEntry wsX4_parentAt := goodIn_r _ [14, 15, 8, 9, 10, 21, 22, 23, 24, 25, 26, 27, 28, 29, 30, 31] (by decide +kernel) (by decide +kernel)
set_option maxRecDepth 20000 in
theorem gX4_hasSameEntry_X4_parentAt : GoodIn wsX4_hasSameEntry (wsV RX4 145 RX4 yX4_parentAt wsX4_parentAt) := goodIn_app (goodIn_of _ (by decide +kernel)) ggX4_hasSameEntry_X4_parentAt
set_option maxRecDepth 20000 in
theorem ggX4_hasSameEntry_X4_labelAt : GoodIn wsX4_hasSameEntry wsX4_labelAt := goodIn_r _ [19, 20, 8, 9, 10, 21, 22, 23, 24, 25, 26, 27, 28, 29, 30, 31] (by decide +kernel) (by decide +kernel)
set_option maxRecDepth 20000 in
theorem gX4_hasSameEntry_X4_labelAt : GoodIn wsX4_hasSameEntry (wsV RX4 155 RX4 yX4_labelAt wsX4_labelAt) := goodIn_app (goodIn_of _ (by decide +kernel)) ggX4_hasSameEntry_X4_labelAt
set_option maxRecDepth 20000 in
theorem ggX4_hasSameEntry_X5_at : GoodIn wsX4_hasSameEntry wsX5_at := goodIn_r _ [10] (by decide +kernel) (by decide +kernel)
set_option maxRecDepth 20000 in
theorem gX4_hasSameEntry_X5_at_n58 : GoodIn wsX4_hasSameEntry (wsX5_at) := ggX4_hasSameEntry_X5_at
theorem dX4_hasSameEntry_0 : decode cX4_hasSameEntry 0 = .ok (.iconst 0, 1) := by decide +kernel
theorem dX4_hasSameEntry_1 : decode cX4_hasSameEntry 1 = .ok (.istore_n 3, 1) := by decide +kernel
theorem dX4_hasSameEntry_2 : decode cX4_hasSameEntry 2 = .ok (.iload_n 3, 1) := by decide +kernel
theorem dX4_hasSameEntry_3 : decode cX4_hasSameEntry 3 = .ok (.iconst 4, 1) := by decide +kernel
theorem dX4_hasSameEntry_4 : decode cX4_hasSameEntry 4 = .ok (.if_icmp .ge 26, 3) := by decide +kernel
theorem dX4_hasSameEntry_7 : decode cX4_hasSameEntry 7 = .ok (.aload_n 0, 1) := by decide +kernel
theorem dX4_hasSameEntry_8 : decode cX4_hasSameEntry 8 = .ok (.iload_n 2, 1) := by decide +kernel
theorem dX4_hasSameEntry_9 : decode cX4_hasSameEntry 9 = .ok (.iload_n 3, 1) := by decide +kernel
theorem dX4_hasSameEntry_10 : decode cX4_hasSameEntry 10 = .ok (.invokevirtual 142, 3) := by decide +kernel
theorem dX4_hasSameEntry_13 : decode cX4_hasSameEntry 13 = .ok (.aload_n 1, 1) := by decide +kernel
theorem dX4_hasSameEntry_14 : decode cX4_hasSameEntry 14 = .ok (.iload_n 2, 1) := by decide +kernel
theorem dX4_hasSameEntry_15 : decode cX4_hasSameEntry 15 = .ok (.iload_n 3, 1) := by decide +kernel
theorem dX4_hasSameEntry_16 : decode cX4_hasSameEntry 16 = .ok (.invokevirtual 142, 3) := by decide +kernel
theorem dX4_hasSameEntry_19 : decode cX4_hasSameEntry 19 = .ok (.if_icmp .eq 5, 3) := by decide +kernel
theorem dX4_hasSameEntry_22 : decode cX4_hasSameEntry 22 = .ok (.iconst 0, 1) := by decide +kernel
theorem dX4_hasSameEntry_23 : decode cX4_hasSameEntry 23 = .ok (.ireturn, 1) := by decide +kernel
theorem dX4_hasSameEntry_24 : decode cX4_hasSameEntry 24 = .ok (.iinc 3 1, 3) := by decide +kernel
theorem dX4_hasSameEntry_27 : decode cX4_hasSameEntry 27 = .ok (.goto (-25), 3) := by decide +kernel
theorem dX4_hasSameEntry_30 : decode cX4_hasSameEntry 30 = .ok (.aload_n 0, 1) := by decide +kernel
theorem dX4_hasSameEntry_31 : decode cX4_hasSameEntry 31 = .ok (.iload_n 2, 1) := by decide +kernel
theorem dX4_hasSameEntry_32 : decode cX4_hasSameEntry 32 = .ok (.invokevirtual 145, 3) := by decide +kernel
theorem dX4_hasSameEntry_35 : decode cX4_hasSameEntry 35 = .ok (.aload_n 1, 1) := by decide +kernel
theorem dX4_hasSameEntry_36 : decode cX4_hasSameEntry 36 = .ok (.iload_n 2, 1) := by decide +kernel
theorem dX4_hasSameEntry_37 : decode cX4_hasSameEntry 37 = .ok (.invokevirtual 145, 3) := by decide +kernel
theorem dX4_hasSameEntry_40 : decode cX4_hasSameEntry 40 = .ok (.if_icmp .ne 39, 3) := by decide +kernel
theorem dX4_hasSameEntry_43 : decode cX4_hasSameEntry 43 = .ok (.aload_n 0, 1) := by decide +kernel
theorem dX4_hasSameEntry_44 : decode cX4_hasSameEntry 44 = .ok (.iload_n 2, 1) := by decide +kernel
theorem dX4_hasSameEntry_45 : decode cX4_hasSameEntry 45 = .ok (.invokevirtual 155, 3) := by decide +kernel
theorem dX4_hasSameEntry_48 : decode cX4_hasSameEntry 48 = .ok (.aload_n 1, 1) := by decide +kernel
theorem dX4_hasSameEntry_49 : decode cX4_hasSameEntry 49 = .ok (.iload_n 2, 1) := by decide +kernel
theorem dX4_hasSameEntry_50 : decode cX4_hasSameEntry 50 = .ok (.invokevirtual 155, 3) := by decide +kernel
theorem dX4_hasSameEntry_53 : decode cX4_hasSameEntry 53 = .ok (.if_icmp .ne 26, 3) := by decide +kernel
theorem dX4_hasSameEntry_56 : decode cX4_hasSameEntry 56 = .ok (.aload_n 0, 1) := by decide +kernel
theorem dX4_hasSameEntry_57 : decode cX4_hasSameEntry 57 = .ok (.getfield 25, 3) := by decide +kernel
theorem dX4_hasSameEntry_60 : decode cX4_hasSameEntry 60 = .ok (.iload_n 2, 1) := by decide +kernel
theorem dX4_hasSameEntry_61 : decode cX4_hasSameEntry 61 = .ok (.invokestatic 58, 3) := by decide +kernel
theorem dX4_hasSameEntry_64 : decode cX4_hasSameEntry 64 = .ok (.aload_n 1, 1) := by decide +kernel
theorem dX4_hasSameEntry_65 : decode cX4_hasSameEntry 65 = .ok (.getfield 25, 3) := by decide +kernel
theorem dX4_hasSameEntry_68 : decode cX4_hasSameEntry 68 = .ok (.iload_n 2, 1) := by decide +kernel
theorem dX4_hasSameEntry_69 : decode cX4_hasSameEntry 69 = .ok (.invokestatic 58, 3) := by decide +kernel
theorem dX4_hasSameEntry_72 : decode cX4_hasSameEntry 72 = .ok (.if_icmp .ne 7, 3) := by decide +kernel
theorem dX4_hasSameEntry_75 : decode cX4_hasSameEntry 75 = .ok (.iconst 1, 1) := by decide +kernel
theorem dX4_hasSameEntry_76 : decode cX4_hasSameEntry 76 = .ok (.goto 4, 3) := by decide +kernel
theorem dX4_hasSameEntry_79 : decode cX4_hasSameEntry 79 = .ok (.iconst 0, 1) := by decide +kernel
theorem dX4_hasSameEntry_80 : decode cX4_hasSameEntry 80 = .ok (.ireturn, 1) := by decide +kernel
set_option maxRecDepth 20000 in
theorem ggX4_orderUnderParent_X4_labelAt : GoodIn wsX4_orderUnderParent wsX4_labelAt := goodIn_r _ [5, 6, 7, 8, 9, 10, 11, 12, 13, 14, 15, 16, 17, 18, 19, 20] (by decide +kernel) (by decide +kernel)
set_option maxRecDepth 20000 in
theorem gX4_orderUnderParent_X4_labelAt : GoodIn wsX4_orderUnderParent (wsV RX4 155 RX4 yX4_labelAt wsX4_labelAt) := goodIn_app (goodIn_of _ (by decide +kernel)) ggX4_orderUnderParent_X4_labelAt
theorem dX4_orderUnderParent_0 : decode cX4_orderUnderParent 0 = .ok (.aload_n 0, 1) := by decide +kernel
theorem dX4_orderUnderParent_1 : decode cX4_orderUnderParent 1 = .ok (.iload_n 1, 1) := by decide +kernel
theorem dX4_orderUnderParent_2 : decode cX4_orderUnderParent 2 = .ok (.invokevirtual 155, 3) := by decide +kernel
theorem dX4_orderUnderParent_5 : decode cX4_orderUnderParent 5 = .ok (.istore_n 2, 1) := by decide +kernel
theorem dX4_orderUnderParent_6 : decode cX4_orderUnderParent 6 = .ok (.iload_n 2, 1) := by decide +kernel
theorem dX4_orderUnderParent_7 : decode cX4_orderUnderParent 7 = .ok (.iconst (-1), 1) := by decide +kernel
theorem dX4_orderUnderParent_8 : decode cX4_orderUnderParent 8 = .ok (.if_icmp .eq 7, 3) := by decide +kernel
theorem dX4_orderUnderParent_11 : decode cX4_orderUnderParent 11 = .ok (.iload_n 2, 1) := by decide +kernel
theorem dX4_orderUnderParent_12 : decode cX4_orderUnderParent 12 = .ok (.goto 7, 3) := by decide +kernel
theorem dX4_orderUnderParent_15 : decode cX4_orderUnderParent 15 = .ok (.bipush 100, 2) := by decide +kernel
theorem dX4_orderUnderParent_17 : decode cX4_orderUnderParent 17 = .ok (.iload_n 1, 1) := by decide +kernel
theorem dX4_orderUnderParent_18 : decode cX4_orderUnderParent 18 = .ok (.iadd, 1) := by decide +kernel
theorem dX4_orderUnderParent_19 : decode cX4_orderUnderParent 19 = .ok (.ireturn, 1) := by decide +kernel
set_option maxRecDepth 20000 in
theorem ggX4_childAfter_X3_isReferral : GoodIn wsX4_childAfter wsX3_isReferral := goodIn_r _ [6, 7, 32, 33] (by decide +kernel) (by decide +kernel)
set_option maxRecDepth 20000 in
theorem gX4_childAfter_X3_isReferral : GoodIn wsX4_childAfter (wsV RX4 158 RX3 yX3_isReferral wsX3_isReferral) := goodIn_app (goodIn_of _ (by decide +kernel)) ggX4_childAfter_X3_isReferral
set_option maxRecDepth 20000 in
theorem ggX4_childAfter_X4_orderUnderParent : GoodIn wsX4_childAfter wsX4_orderUnderParent := goodIn_r _ [12, 13, 14, 15, 11, 16, 17, 18, 19, 20, 21, 22, 23, 24, 25, 26, 27, 28, 29, 30, 31] (by decide +kernel) (by decide +kernel)
set_option maxRecDepth 20000 in
theorem gX4_childAfter_X4_orderUnderParent : GoodIn wsX4_childAfter (wsV RX4 163 RX4 yX4_orderUnderParent wsX4_orderUnderParent) := goodIn_app (goodIn_of _ (by decide +kernel)) ggX4_childAfter_X4_orderUnderParent
theorem dX4_childAfter_0 : decode cX4_childAfter 0 = .ok (.iconst (-1), 1) := by decide +kernel
theorem dX4_childAfter_1 : decode cX4_childAfter 1 = .ok (.istore 4, 2) := by decide +kernel
theorem dX4_childAfter_3 : decode cX4_childAfter 3 = .ok (.iconst 0, 1) := by decide +kernel
theorem dX4_childAfter_4 : decode cX4_childAfter 4 = .ok (.istore 5, 2) := by decide +kernel
theorem dX4_childAfter_6 : decode cX4_childAfter 6 = .ok (.iload 5, 2) := by decide +kernel
theorem dX4_childAfter_8 : decode cX4_childAfter 8 = .ok (.bipush 42, 2) := by decide +kernel
theorem dX4_childAfter_10 : decode cX4_childAfter 10 = .ok (.if_icmp .ge 64, 3) := by decide +kernel
theorem dX4_childAfter_13 : decode cX4_childAfter 13 = .ok (.aload_n 0, 1) := by decide +kernel
theorem dX4_childAfter_14 : decode cX4_childAfter 14 = .ok (.getfield 19, 3) := by decide +kernel
theorem dX4_childAfter_17 : decode cX4_childAfter 17 = .ok (.iload 5, 2) := by decide +kernel
theorem dX4_childAfter_19 : decode cX4_childAfter 19 = .ok (.iaload, 1) := by decide +kernel
theorem dX4_childAfter_20 : decode cX4_childAfter 20 = .ok (.iload_n 1, 1) := by decide +kernel
theorem dX4_childAfter_21 : decode cX4_childAfter 21 = .ok (.if_icmp .ne 47, 3) := by decide +kernel
theorem dX4_childAfter_24 : decode cX4_childAfter 24 = .ok (.aload_n 3, 1) := by decide +kernel
theorem dX4_childAfter_25 : decode cX4_childAfter 25 = .ok (.iload 5, 2) := by decide +kernel
theorem dX4_childAfter_27 : decode cX4_childAfter 27 = .ok (.invokevirtual 158, 3) := by decide +kernel
theorem dX4_childAfter_30 : decode cX4_childAfter 30 = .ok (.ifCond .ne 38, 3) := by decide +kernel
theorem dX4_childAfter_33 : decode cX4_childAfter 33 = .ok (.aload_n 0, 1) := by decide +kernel
theorem dX4_childAfter_34 : decode cX4_childAfter 34 = .ok (.iload 5, 2) := by decide +kernel
theorem dX4_childAfter_36 : decode cX4_childAfter 36 = .ok (.invokevirtual 163, 3) := by decide +kernel
theorem dX4_childAfter_39 : decode cX4_childAfter 39 = .ok (.iload_n 2, 1) := by decide +kernel
theorem dX4_childAfter_40 : decode cX4_childAfter 40 = .ok (.if_icmp .le 28, 3) := by decide +kernel
theorem dX4_childAfter_43 : decode cX4_childAfter 43 = .ok (.iload 4, 2) := by decide +kernel
theorem dX4_childAfter_45 : decode cX4_childAfter 45 = .ok (.iconst (-1), 1) := by decide +kernel
theorem dX4_childAfter_46 : decode cX4_childAfter 46 = .ok (.if_icmp .eq 18, 3) := by decide +kernel
theorem dX4_childAfter_49 : decode cX4_childAfter 49 = .ok (.aload_n 0, 1) := by decide +kernel
theorem dX4_childAfter_50 : decode cX4_childAfter 50 = .ok (.iload 5, 2) := by decide +kernel
theorem dX4_childAfter_52 : decode cX4_childAfter 52 = .ok (.invokevirtual 163, 3) := by decide +kernel
theorem dX4_childAfter_55 : decode cX4_childAfter 55 = .ok (.aload_n 0, 1) := by decide +kernel
theorem dX4_childAfter_56 : decode cX4_childAfter 56 = .ok (.iload 4, 2) := by decide +kernel
theorem dX4_childAfter_58 : decode cX4_childAfter 58 = .ok (.invokevirtual 163, 3) := by decide +kernel
theorem dX4_childAfter_61 : decode cX4_childAfter 61 = .ok (.if_icmp .ge 7, 3) := by decide +kernel
theorem dX4_childAfter_64 : decode cX4_childAfter 64 = .ok (.iload 5, 2) := by decide +kernel
theorem dX4_childAfter_66 : decode cX4_childAfter 66 = .ok (.istore 4, 2) := by decide +kernel
theorem dX4_childAfter_68 : decode cX4_childAfter 68 = .ok (.iinc 5 1, 3) := by decide +kernel
theorem dX4_childAfter_71 : decode cX4_childAfter 71 = .ok (.goto (-65), 3) := by decide +kernel
theorem dX4_childAfter_74 : decode cX4_childAfter 74 = .ok (.iload 4, 2) := by decide +kernel
theorem dX4_childAfter_76 : decode cX4_childAfter 76 = .ok (.ireturn, 1) := by decide +kernel
set_option maxRecDepth 20000 in
theorem ggX4_entryAfter_X4_childAfter : GoodIn wsX4_entryAfter wsX4_childAfter := goodIn_r _ [5, 6, 7, 8, 9, 10, 11, 12, 13, 14, 15, 4, 16, 17, 18, 19, 20, 21, 22, 23, 24, 29, 30, 31, 32, 33, 34, 35, 36, 37, 38, 39, 40, 41] (by decide +kernel) (by decide +kernel)
set_option maxRecDepth 20000 in
theorem gX4_entryAfter_X4_childAfter : GoodIn wsX4_entryAfter (wsV RX4 166 RX4 yX4_childAfter wsX4_childAfter) := goodIn_app (goodIn_of _ (by decide +kernel)) ggX4_entryAfter_X4_childAfter
set_option maxRecDepth 20000 in
theorem ggX4_entryAfter_X4_parentAt : GoodIn wsX4_entryAfter wsX4_parentAt := goodIn_r _ [28, 6, 22, 23, 24, 29, 30, 31, 32, 33, 34, 35, 36, 37, 38, 39] (by decide +kernel) (by decide +kernel)
set_option maxRecDepth 20000 in
theorem gX4_entryAfter_X4_parentAt : GoodIn wsX4_entryAfter (wsV RX4 145 RX4 yX4_parentAt wsX4_parentAt) := goodIn_app (goodIn_of _ (by decide +kernel)) ggX4_entryAfter_X4_parentAt
set_option maxRecDepth 20000 in
theorem ggX4_entryAfter_X4_orderUnderParent : GoodIn wsX4_entryAfter wsX4_orderUnderParent := goodIn_r _ [16, 17, 18, 19, 4, 20, 21, 22, 23, 24, 29, 30, 31, 32, 33, 34, 35, 36, 37, 38, 39] (by decide +kernel) (by decide +kernel)
set_option maxRecDepth 20000 in
theorem gX4_entryAfter_X4_orderUnderParent : GoodIn wsX4_entryAfter (wsV RX4 163 RX4 yX4_orderUnderParent wsX4_orderUnderParent) := goodIn_app (goodIn_of _ (by decide +kernel)) ggX4_entryAfter_X4_orderUnderParent
theorem dX4_entryAfter_0 : decode cX4_entryAfter 0 = .ok (.aload_n 0, 1) := by decide +kernel
theorem dX4_entryAfter_1 : decode cX4_entryAfter 1 = .ok (.iload_n 1, 1) := by decide +kernel
theorem dX4_entryAfter_2 : decode cX4_entryAfter 2 = .ok (.iconst (-1), 1) := by decide +kernel
theorem dX4_entryAfter_3 : decode cX4_entryAfter 3 = .ok (.aload_n 3, 1) := by decide +kernel
theorem dX4_entryAfter_4 : decode cX4_entryAfter 4 = .ok (.invokevirtual 166, 3) := by decide +kernel
theorem dX4_entryAfter_7 : decode cX4_entryAfter 7 = .ok (.istore 4, 2) := by decide +kernel
theorem dX4_entryAfter_9 : decode cX4_entryAfter 9 = .ok (.iload 4, 2) := by decide +kernel
theorem dX4_entryAfter_11 : decode cX4_entryAfter 11 = .ok (.iconst (-1), 1) := by decide +kernel
theorem dX4_entryAfter_12 : decode cX4_entryAfter 12 = .ok (.if_icmp .eq 6, 3) := by decide +kernel
theorem dX4_entryAfter_15 : decode cX4_entryAfter 15 = .ok (.iload 4, 2) := by decide +kernel
theorem dX4_entryAfter_17 : decode cX4_entryAfter 17 = .ok (.ireturn, 1) := by decide +kernel
theorem dX4_entryAfter_18 : decode cX4_entryAfter 18 = .ok (.iload_n 1, 1) := by decide +kernel
theorem dX4_entryAfter_19 : decode cX4_entryAfter 19 = .ok (.istore 5, 2) := by decide +kernel
theorem dX4_entryAfter_21 : decode cX4_entryAfter 21 = .ok (.iconst 0, 1) := by decide +kernel
theorem dX4_entryAfter_22 : decode cX4_entryAfter 22 = .ok (.istore 6, 2) := by decide +kernel
theorem dX4_entryAfter_24 : decode cX4_entryAfter 24 = .ok (.iload 6, 2) := by decide +kernel
theorem dX4_entryAfter_26 : decode cX4_entryAfter 26 = .ok (.bipush 42, 2) := by decide +kernel
theorem dX4_entryAfter_28 : decode cX4_entryAfter 28 = .ok (.if_icmp .ge 57, 3) := by decide +kernel
theorem dX4_entryAfter_31 : decode cX4_entryAfter 31 = .ok (.iload 5, 2) := by decide +kernel
theorem dX4_entryAfter_33 : decode cX4_entryAfter 33 = .ok (.iload_n 2, 1) := by decide +kernel
theorem dX4_entryAfter_34 : decode cX4_entryAfter 34 = .ok (.if_icmp .eq 51, 3) := by decide +kernel
theorem dX4_entryAfter_37 : decode cX4_entryAfter 37 = .ok (.iload 5, 2) := by decide +kernel
theorem dX4_entryAfter_39 : decode cX4_entryAfter 39 = .ok (.iconst (-1), 1) := by decide +kernel
theorem dX4_entryAfter_40 : decode cX4_entryAfter 40 = .ok (.if_icmp .eq 45, 3) := by decide +kernel
theorem dX4_entryAfter_43 : decode cX4_entryAfter 43 = .ok (.aload_n 0, 1) := by decide +kernel
theorem dX4_entryAfter_44 : decode cX4_entryAfter 44 = .ok (.aload_n 0, 1) := by decide +kernel
theorem dX4_entryAfter_45 : decode cX4_entryAfter 45 = .ok (.iload 5, 2) := by decide +kernel
theorem dX4_entryAfter_47 : decode cX4_entryAfter 47 = .ok (.invokevirtual 145, 3) := by decide +kernel
theorem dX4_entryAfter_50 : decode cX4_entryAfter 50 = .ok (.aload_n 0, 1) := by decide +kernel
theorem dX4_entryAfter_51 : decode cX4_entryAfter 51 = .ok (.iload 5, 2) := by decide +kernel
theorem dX4_entryAfter_53 : decode cX4_entryAfter 53 = .ok (.invokevirtual 163, 3) := by decide +kernel
theorem dX4_entryAfter_56 : decode cX4_entryAfter 56 = .ok (.aload_n 3, 1) := by decide +kernel
theorem dX4_entryAfter_57 : decode cX4_entryAfter 57 = .ok (.invokevirtual 166, 3) := by decide +kernel
theorem dX4_entryAfter_60 : decode cX4_entryAfter 60 = .ok (.istore 7, 2) := by decide +kernel
theorem dX4_entryAfter_62 : decode cX4_entryAfter 62 = .ok (.iload 7, 2) := by decide +kernel
theorem dX4_entryAfter_64 : decode cX4_entryAfter 64 = .ok (.iconst (-1), 1) := by decide +kernel
theorem dX4_entryAfter_65 : decode cX4_entryAfter 65 = .ok (.if_icmp .eq 6, 3) := by decide +kernel
theorem dX4_entryAfter_68 : decode cX4_entryAfter 68 = .ok (.iload 7, 2) := by decide +kernel
theorem dX4_entryAfter_70 : decode cX4_entryAfter 70 = .ok (.ireturn, 1) := by decide +kernel
theorem dX4_entryAfter_71 : decode cX4_entryAfter 71 = .ok (.aload_n 0, 1) := by decide +kernel
theorem dX4_entryAfter_72 : decode cX4_entryAfter 72 = .ok (.iload 5, 2) := by decide +kernel
theorem dX4_entryAfter_74 : decode cX4_entryAfter 74 = .ok (.invokevirtual 145, 3) := by decide +kernel
theorem dX4_entryAfter_77 : decode cX4_entryAfter 77 = .ok (.istore 5, 2) := by decide +kernel
theorem dX4_entryAfter_79 : decode cX4_entryAfter 79 = .ok (.iinc 6 1, 3) := by decide +kernel
theorem dX4_entryAfter_82 : decode cX4_entryAfter 82 = .ok (.goto (-58), 3) := by decide +kernel
theorem dX4_entryAfter_85 : decode cX4_entryAfter 85 = .ok (.iconst (-1), 1) := by decide +kernel
theorem dX4_entryAfter_86 : decode cX4_entryAfter 86 = .ok (.ireturn, 1) := by decide +kernel
theorem dJ7_fill_53178_0 : decode cJ7_fill_53178 0 = .ok (.iconst 0, 1) := by decide +kernel
theorem dJ7_fill_53178_1 : decode cJ7_fill_53178 1 = .ok (.istore_n 2, 1) := by decide +kernel
theorem dJ7_fill_53178_2 : decode cJ7_fill_53178 2 = .ok (.aload_n 0, 1) := by decide +kernel
theorem dJ7_fill_53178_3 : decode cJ7_fill_53178 3 = .ok (.arraylength, 1) := by decide +kernel
theorem dJ7_fill_53178_4 : decode cJ7_fill_53178 4 = .ok (.istore_n 3, 1) := by decide +kernel
theorem dJ7_fill_53178_5 : decode cJ7_fill_53178 5 = .ok (.iload_n 2, 1) := by decide +kernel
theorem dJ7_fill_53178_6 : decode cJ7_fill_53178 6 = .ok (.iload_n 3, 1) := by decide +kernel
theorem dJ7_fill_53178_7 : decode cJ7_fill_53178 7 = .ok (.if_icmp .ge 13, 3) := by decide +kernel
theorem dJ7_fill_53178_10 : decode cJ7_fill_53178 10 = .ok (.aload_n 0, 1) := by decide +kernel
theorem dJ7_fill_53178_11 : decode cJ7_fill_53178 11 = .ok (.iload_n 2, 1) := by decide +kernel
theorem dJ7_fill_53178_12 : decode cJ7_fill_53178 12 = .ok (.iload_n 1, 1) := by decide +kernel
theorem dJ7_fill_53178_13 : decode cJ7_fill_53178 13 = .ok (.iastore, 1) := by decide +kernel
theorem dJ7_fill_53178_14 : decode cJ7_fill_53178 14 = .ok (.iinc 2 1, 3) := by decide +kernel
theorem dJ7_fill_53178_17 : decode cJ7_fill_53178 17 = .ok (.goto (-12), 3) := by decide +kernel
theorem dJ7_fill_53178_20 : decode cJ7_fill_53178 20 = .ok (.return_, 1) := by decide +kernel
end
section
set_option maxRecDepth 20000 in
theorem ggX5_init_X0_init : GoodIn wsX5_init wsX0_init := goodIn_r _ [27, 28, 2, 3, 29, 30, 31, 32, 33, 34, 35, 79, 80] (by decide +kernel) (by decide +kernel)
set_option maxRecDepth 20000 in
theorem gX5_init_X0_init : GoodIn wsX5_init (wsX0_init) := ggX5_init_X0_init
set_option maxRecDepth 20000 in
theorem ggX5_init_X2_init : GoodIn wsX5_init wsX2_init := goodIn_r _ [37, 38, 2, 3, 29, 39, 40, 41, 42, 43, 44, 87, 88, 89, 90, 91, 92, 93] (by decide +kernel) (by decide +kernel)
set_option maxRecDepth 20000 in
theorem gX5_init_X2_init_n18 : GoodIn wsX5_init (wsX2_init) := ggX5_init_X2_init
set_option maxRecDepth 20000 in
theorem ggX5_init_X4_init : GoodIn wsX5_init wsX4_init := goodIn_r _ [47, 48, 2, 3, 29, 49, 50, 51, 52, 53, 54, 55, 56, 57, 58, 59, 60, 61, 14, 62, 63, 64, 33, 34, 35, 94, 95, 96, 97, 98, 99, 100, 101, 102, 103, 104] (by decide +kernel) (by decide +kernel)
set_option maxRecDepth 20000 in
theorem gX5_init_X4_init : GoodIn wsX5_init (wsX4_init) := ggX5_init_X4_init
set_option maxRecDepth 20000 in
theorem ggX5_init_X3_init : GoodIn wsX5_init wsX3_init := goodIn_r _ [67, 68, 2, 3, 29, 69, 50, 70, 71, 33, 34, 35, 105, 106] (by decide +kernel) (by decide +kernel)
set_option maxRecDepth 20000 in
theorem gX5_init_X3_init : GoodIn wsX5_init (wsX3_init) := ggX5_init_X3_init
set_option maxRecDepth 20000 in
theorem ggX5_init_X1_init : GoodIn wsX5_init wsX1_init := goodIn_r _ [73, 74, 2, 3, 29, 75, 76, 77, 78, 107, 108, 109, 110, 111] (by decide +kernel) (by decide +kernel)
set_option maxRecDepth 20000 in
theorem gX5_init_X1_init_n44 : GoodIn wsX5_init (wsX1_init) := ggX5_init_X1_init
theorem dX5_init_0 : decode cX5_init 0 = .ok (.aload_n 0, 1) := by decide +kernel
theorem dX5_init_1 : decode cX5_init 1 = .ok (.invokespecial 3, 3) := by decide +kernel
theorem dX5_init_4 : decode cX5_init 4 = .ok (.aload_n 0, 1) := by decide +kernel
theorem dX5_init_5 : decode cX5_init 5 = .ok (.new 9, 3) := by decide +kernel
theorem dX5_init_8 : decode cX5_init 8 = .ok (.dup, 1) := by decide +kernel
theorem dX5_init_9 : decode cX5_init 9 = .ok (.invokespecial 11, 3) := by decide +kernel
theorem dX5_init_12 : decode cX5_init 12 = .ok (.putfield 12, 3) := by decide +kernel
theorem dX5_init_15 : decode cX5_init 15 = .ok (.aload_n 0, 1) := by decide +kernel
theorem dX5_init_16 : decode cX5_init 16 = .ok (.new 16, 3) := by decide +kernel
theorem dX5_init_19 : decode cX5_init 19 = .ok (.dup, 1) := by decide +kernel
theorem dX5_init_20 : decode cX5_init 20 = .ok (.invokespecial 18, 3) := by decide +kernel
theorem dX5_init_23 : decode cX5_init 23 = .ok (.putfield 19, 3) := by decide +kernel
theorem dX5_init_26 : decode cX5_init 26 = .ok (.aload_n 0, 1) := by decide +kernel
theorem dX5_init_27 : decode cX5_init 27 = .ok (.new 23, 3) := by decide +kernel
theorem dX5_init_30 : decode cX5_init 30 = .ok (.dup, 1) := by decide +kernel
theorem dX5_init_31 : decode cX5_init 31 = .ok (.iconst 0, 1) := by decide +kernel
theorem dX5_init_32 : decode cX5_init 32 = .ok (.aload_n 0, 1) := by decide +kernel
theorem dX5_init_33 : decode cX5_init 33 = .ok (.getfield 19, 3) := by decide +kernel
theorem dX5_init_36 : decode cX5_init 36 = .ok (.aload_n 0, 1) := by decide +kernel
theorem dX5_init_37 : decode cX5_init 37 = .ok (.getfield 12, 3) := by decide +kernel
theorem dX5_init_40 : decode cX5_init 40 = .ok (.invokespecial 25, 3) := by decide +kernel
theorem dX5_init_43 : decode cX5_init 43 = .ok (.putfield 28, 3) := by decide +kernel
theorem dX5_init_46 : decode cX5_init 46 = .ok (.aload_n 0, 1) := by decide +kernel
theorem dX5_init_47 : decode cX5_init 47 = .ok (.new 23, 3) := by decide +kernel
theorem dX5_init_50 : decode cX5_init 50 = .ok (.dup, 1) := by decide +kernel
theorem dX5_init_51 : decode cX5_init 51 = .ok (.iconst 1, 1) := by decide +kernel
theorem dX5_init_52 : decode cX5_init 52 = .ok (.aload_n 0, 1) := by decide +kernel
theorem dX5_init_53 : decode cX5_init 53 = .ok (.getfield 19, 3) := by decide +kernel
theorem dX5_init_56 : decode cX5_init 56 = .ok (.aload_n 0, 1) := by decide +kernel
theorem dX5_init_57 : decode cX5_init 57 = .ok (.getfield 12, 3) := by decide +kernel
theorem dX5_init_60 : decode cX5_init 60 = .ok (.invokespecial 25, 3) := by decide +kernel
theorem dX5_init_63 : decode cX5_init 63 = .ok (.putfield 32, 3) := by decide +kernel
theorem dX5_init_66 : decode cX5_init 66 = .ok (.aload_n 0, 1) := by decide +kernel
theorem dX5_init_67 : decode cX5_init 67 = .ok (.new 35, 3) := by decide +kernel
theorem dX5_init_70 : decode cX5_init 70 = .ok (.dup, 1) := by decide +kernel
theorem dX5_init_71 : decode cX5_init 71 = .ok (.invokespecial 37, 3) := by decide +kernel
theorem dX5_init_74 : decode cX5_init 74 = .ok (.putfield 38, 3) := by decide +kernel
theorem dX5_init_77 : decode cX5_init 77 = .ok (.aload_n 0, 1) := by decide +kernel
theorem dX5_init_78 : decode cX5_init 78 = .ok (.new 42, 3) := by decide +kernel
theorem dX5_init_81 : decode cX5_init 81 = .ok (.dup, 1) := by decide +kernel
theorem dX5_init_82 : decode cX5_init 82 = .ok (.invokespecial 44, 3) := by decide +kernel
theorem dX5_init_85 : decode cX5_init 85 = .ok (.putfield 45, 3) := by decide +kernel
theorem dX5_init_88 : decode cX5_init 88 = .ok (.return_, 1) := by decide +kernel
set_option maxRecDepth 20000 in
theorem ggX5_setClass_X5_checkIndex : GoodIn wsX5_setClass wsX5_checkIndex := goodIn_ca (goodIn_r _ [8, 9, 10] (by decide +kernel) (by decide +kernel)) (goodIn_sub (fun _ h => List.mem_cons_of_mem _ (List.mem_append_left _ (List.mem_append_right _ h))) (by decide +kernel))
set_option maxRecDepth 20000 in
theorem gX5_setClass_X5_checkIndex : GoodIn wsX5_setClass (va_wsS RX5 49 yX5_checkIndex wsX5_checkIndex) := goodIn_app (goodIn_of _ (by decide +kernel)) ggX5_setClass_X5_checkIndex
set_option maxRecDepth 20000 in
theorem ggX5_setClass_X5_checkArgument : GoodIn wsX5_setClass wsX5_checkArgument := goodIn_ca (goodIn_r _ [13, 14, 15] (by decide +kernel) (by decide +kernel)) (goodIn_sub (fun _ h => List.mem_cons_of_mem _ (List.mem_append_right _ h)) (by decide +kernel))
set_option maxRecDepth 20000 in
theorem gX5_setClass_X5_checkArgument : GoodIn wsX5_setClass (va_wsS RX5 53 yX5_checkArgument wsX5_checkArgument) := goodIn_app (goodIn_of _ (by decide +kernel)) ggX5_setClass_X5_checkArgument
set_option maxRecDepth 20000 in
theorem ggX5_setClass_X0_define : GoodIn wsX5_setClass wsX0_define := goodIn_r _ [20, 21, 22, 23, 7, 24, 38, 39] (by decide +kernel) (by decide +kernel)
set_option maxRecDepth 20000 in
theorem gX5_setClass_X0_define : GoodIn wsX5_setClass (wsV RX5 68 RX0 yX0_define wsX0_define) := goodIn_app (goodIn_of _ (by decide +kernel)) ggX5_setClass_X0_define
theorem dX5_setClass_0 : decode cX5_setClass 0 = .ok (.iload_n 1, 1) := by decide +kernel
theorem dX5_setClass_1 : decode cX5_setClass 1 = .ok (.iconst 3, 1) := by decide +kernel
theorem dX5_setClass_2 : decode cX5_setClass 2 = .ok (.invokestatic 49, 3) := by decide +kernel
theorem dX5_setClass_5 : decode cX5_setClass 5 = .ok (.iload_n 2, 1) := by decide +kernel
theorem dX5_setClass_6 : decode cX5_setClass 6 = .ok (.iconst 0, 1) := by decide +kernel
theorem dX5_setClass_7 : decode cX5_setClass 7 = .ok (.bipush 15, 2) := by decide +kernel
theorem dX5_setClass_9 : decode cX5_setClass 9 = .ok (.invokestatic 53, 3) := by decide +kernel
theorem dX5_setClass_12 : decode cX5_setClass 12 = .ok (.iload_n 3, 1) := by decide +kernel
theorem dX5_setClass_13 : decode cX5_setClass 13 = .ok (.iconst 0, 1) := by decide +kernel
theorem dX5_setClass_14 : decode cX5_setClass 14 = .ok (.bipush 15, 2) := by decide +kernel
theorem dX5_setClass_16 : decode cX5_setClass 16 = .ok (.invokestatic 53, 3) := by decide +kernel
theorem dX5_setClass_19 : decode cX5_setClass 19 = .ok (.aload_n 0, 1) := by decide +kernel
theorem dX5_setClass_20 : decode cX5_setClass 20 = .ok (.getfield 19, 3) := by decide +kernel
theorem dX5_setClass_23 : decode cX5_setClass 23 = .ok (.getfield 57, 3) := by decide +kernel
theorem dX5_setClass_26 : decode cX5_setClass 26 = .ok (.ifCond .le 13, 3) := by decide +kernel
theorem dX5_setClass_29 : decode cX5_setClass 29 = .ok (.new 61, 3) := by decide +kernel
theorem dX5_setClass_32 : decode cX5_setClass 32 = .ok (.dup, 1) := by decide +kernel
theorem dX5_setClass_33 : decode cX5_setClass 33 = .ok (.ldc 63, 2) := by decide +kernel
theorem dX5_setClass_35 : decode cX5_setClass 35 = .ok (.invokespecial 65, 3) := by decide +kernel
theorem dX5_setClass_38 : decode cX5_setClass 38 = .ok (.athrow, 1) := by decide +kernel
theorem dX5_setClass_39 : decode cX5_setClass 39 = .ok (.aload_n 0, 1) := by decide +kernel
theorem dX5_setClass_40 : decode cX5_setClass 40 = .ok (.getfield 12, 3) := by decide +kernel
theorem dX5_setClass_43 : decode cX5_setClass 43 = .ok (.iload_n 1, 1) := by decide +kernel
theorem dX5_setClass_44 : decode cX5_setClass 44 = .ok (.iload_n 2, 1) := by decide +kernel
theorem dX5_setClass_45 : decode cX5_setClass 45 = .ok (.iload_n 3, 1) := by decide +kernel
theorem dX5_setClass_46 : decode cX5_setClass 46 = .ok (.invokevirtual 68, 3) := by decide +kernel
theorem dX5_setClass_49 : decode cX5_setClass 49 = .ok (.return_, 1) := by decide +kernel
set_option maxRecDepth 20000 in
theorem ggX5_add_X5_treeOf : GoodIn wsX5_add wsX5_treeOf := goodIn_ca (goodIn_r _ [6, 7, 8, 9, 10, 5, 11, 12, 13, 148, 149, 150, 151, 152, 153] (by decide +kernel) (by decide +kernel)) (goodIn_sub (fun _ h => List.mem_cons_of_mem _ (List.mem_append_left _ (List.mem_append_left _ (List.mem_append_right _ h)))) (by decide +kernel))
set_option maxRecDepth 20000 in
theorem gX5_add_X5_treeOf : GoodIn wsX5_add (wsV RX5 71 RX5 yX5_treeOf wsX5_treeOf) := goodIn_app (goodIn_of _ (by decide +kernel)) ggX5_add_X5_treeOf
set_option maxRecDepth 20000 in
theorem ggX5_add_X5_checkEntry : GoodIn wsX5_add wsX5_checkEntry := goodIn_ca (goodIn_r _ [16, 12, 13, 17, 18, 19, 20, 21, 22, 161, 162, 163, 164, 165, 166, 167, 168, 169, 170, 171] (by decide +kernel) (by decide +kernel)) (goodIn_sub (fun _ h => List.mem_cons_of_mem _ (List.mem_append_left _ (List.mem_append_left _ (List.mem_append_right _ h)))) (by decide +kernel))
set_option maxRecDepth 20000 in
theorem gX5_add_X5_checkEntry : GoodIn wsX5_add (va_wsS RX5 75 yX5_checkEntry wsX5_checkEntry) := goodIn_app (goodIn_of _ (by decide +kernel)) ggX5_add_X5_checkEntry
set_option maxRecDepth 20000 in
theorem ggX5_add_X5_checkIndex : GoodIn wsX5_add wsX5_checkIndex := goodIn_ca (goodIn_r _ [11, 12, 13] (by decide +kernel) (by decide +kernel)) (goodIn_sub (fun _ h => List.mem_cons_of_mem _ (List.mem_append_left _ (List.mem_append_left _ (List.mem_append_right _ h)))) (by decide +kernel))
set_option maxRecDepth 20000 in
theorem gX5_add_X5_checkIndex : GoodIn wsX5_add (va_wsS RX5 49 yX5_checkIndex wsX5_checkIndex) := goodIn_app (goodIn_of _ (by decide +kernel)) ggX5_add_X5_checkIndex
set_option maxRecDepth 20000 in
theorem ggX5_add_X5_checkArgument : GoodIn wsX5_add wsX5_checkArgument := goodIn_ca (goodIn_r _ [25, 26, 27] (by decide +kernel) (by decide +kernel)) (goodIn_sub (fun _ h => List.mem_cons_of_mem _ (List.mem_append_left _ (List.mem_append_right _ h))) (by decide +kernel))
set_option maxRecDepth 20000 in
theorem gX5_add_X5_checkArgument : GoodIn wsX5_add (va_wsS RX5 53 yX5_checkArgument wsX5_checkArgument) := goodIn_app (goodIn_of _ (by decide +kernel)) ggX5_add_X5_checkArgument
set_option maxRecDepth 20000 in
theorem ggX5_add_X5_checkRoomForChange : GoodIn wsX5_add wsX5_checkRoomForChange := goodIn_ca (goodIn_r _ [31, 32, 33, 1, 148, 149, 150, 151, 152, 153, 154, 155, 156, 157, 158, 159, 160] (by decide +kernel) (by decide +kernel)) (goodIn_sub (fun _ h => List.mem_cons_of_mem _ (List.mem_append_right _ h)) (by decide +kernel))
set_option maxRecDepth 20000 in
theorem gX5_add_X5_checkRoomForChange : GoodIn wsX5_add (wsV RX5 79 RX5 yX5_checkRoomForChange wsX5_checkRoomForChange) := goodIn_app (goodIn_of _ (by decide +kernel)) ggX5_add_X5_checkRoomForChange
set_option maxRecDepth 20000 in
theorem ggX5_add_X5_checkLabelIsFree : GoodIn wsX5_add wsX5_checkLabelIsFree := goodIn_ca (goodIn_r _ [36, 32, 33, 37, 38, 39, 20, 40, 41, 42, 43, 44, 45, 161, 162, 163, 164, 165, 166, 167, 168, 169, 170, 171] (by decide +kernel) (by decide +kernel)) (goodIn_sub (fun _ h => List.mem_cons_of_mem _ (List.mem_append_right _ h)) (by decide +kernel))
set_option maxRecDepth 20000 in
theorem gX5_add_X5_checkLabelIsFree : GoodIn wsX5_add (va_wsS RX5 82 yX5_checkLabelIsFree wsX5_checkLabelIsFree) := goodIn_app (goodIn_of _ (by decide +kernel)) ggX5_add_X5_checkLabelIsFree
set_option maxRecDepth 20000 in
theorem ggX5_add_X4_stampOfNext : GoodIn wsX5_add wsX4_stampOfNext := goodIn_r _ [49, 50, 51, 52, 53, 54, 5, 55, 56, 57, 58, 59, 60, 61, 62, 63, 64, 161, 162, 163, 164, 165, 166, 167, 168, 169, 170, 171, 154, 155, 156, 157, 158, 159, 160] (by decide +kernel) (by decide +kernel)
set_option maxRecDepth 20000 in
theorem gX5_add_X4_stampOfNext : GoodIn wsX5_add (wsV RX5 86 RX4 yX4_stampOfNext wsX4_stampOfNext) := goodIn_app (goodIn_of _ (by decide +kernel)) ggX5_add_X4_stampOfNext
set_option maxRecDepth 20000 in
theorem ggX5_add_X2_append : GoodIn wsX5_add wsX2_append := goodIn_r _ [68, 69, 70, 61, 71, 72, 73, 74, 75, 5, 76, 154, 155, 156, 157, 158, 159, 160] (by decide +kernel) (by decide +kernel)
set_option maxRecDepth 20000 in
theorem gX5_add_X2_append : GoodIn wsX5_add (wsV RX5 90 RX2 yX2_append wsX2_append) := goodIn_app (goodIn_of _ (by decide +kernel)) ggX5_add_X2_append
set_option maxRecDepth 20000 in
theorem ggX5_add_X4_learn : GoodIn wsX5_add wsX4_learn := goodIn_r _ [80, 50, 52, 81, 82, 83, 20, 84, 51, 54, 5, 55, 85, 86, 87, 59, 88, 61, 75, 76, 89, 90, 91, 92, 22, 41, 42, 93, 94, 95, 96, 97, 98, 99, 100, 101, 102, 103, 104, 105, 106, 107, 108, 109, 110, 111, 112, 18, 19, 21, 113, 38, 39, 40, 43, 44, 45, 114, 115, 116, 117, 118, 119, 120, 121, 122, 123, 124, 125, 126, 127, 128, 129, 130, 131, 132, 133, 134, 135, 136, 137, 138, 139, 140, 141, 142, 143, 144, 145, 146, 147, 161, 162, 163, 164, 165, 166, 167, 168, 169, 170, 171, 154, 155, 156, 157, 158, 159, 160, 172, 173] (by decide +kernel) (by decide +kernel)
set_option maxRecDepth 20000 in
theorem gX5_add_X4_learn : GoodIn wsX5_add (wsV RX5 94 RX4 yX4_learn wsX4_learn) := goodIn_app (goodIn_of _ (by decide +kernel)) ggX5_add_X4_learn
theorem dX5_add_0 : decode cX5_add 0 = .ok (.aload_n 0, 1) := by decide +kernel
theorem dX5_add_1 : decode cX5_add 1 = .ok (.iload_n 1, 1) := by decide +kernel
theorem dX5_add_2 : decode cX5_add 2 = .ok (.invokevirtual 71, 3) := by decide +kernel
theorem dX5_add_5 : decode cX5_add 5 = .ok (.astore 5, 2) := by decide +kernel
theorem dX5_add_7 : decode cX5_add 7 = .ok (.aload 5, 2) := by decide +kernel
theorem dX5_add_9 : decode cX5_add 9 = .ok (.iload_n 2, 1) := by decide +kernel
theorem dX5_add_10 : decode cX5_add 10 = .ok (.invokestatic 75, 3) := by decide +kernel
theorem dX5_add_13 : decode cX5_add 13 = .ok (.iload 4, 2) := by decide +kernel
theorem dX5_add_15 : decode cX5_add 15 = .ok (.iconst 3, 1) := by decide +kernel
theorem dX5_add_16 : decode cX5_add 16 = .ok (.invokestatic 49, 3) := by decide +kernel
theorem dX5_add_19 : decode cX5_add 19 = .ok (.iload_n 3, 1) := by decide +kernel
theorem dX5_add_20 : decode cX5_add 20 = .ok (.iconst 0, 1) := by decide +kernel
theorem dX5_add_21 : decode cX5_add 21 = .ok (.bipush 99, 2) := by decide +kernel
theorem dX5_add_23 : decode cX5_add 23 = .ok (.invokestatic 53, 3) := by decide +kernel
theorem dX5_add_26 : decode cX5_add 26 = .ok (.aload_n 0, 1) := by decide +kernel
theorem dX5_add_27 : decode cX5_add 27 = .ok (.invokevirtual 79, 3) := by decide +kernel
theorem dX5_add_30 : decode cX5_add 30 = .ok (.aload 5, 2) := by decide +kernel
theorem dX5_add_32 : decode cX5_add 32 = .ok (.iload_n 2, 1) := by decide +kernel
theorem dX5_add_33 : decode cX5_add 33 = .ok (.iload_n 3, 1) := by decide +kernel
theorem dX5_add_34 : decode cX5_add 34 = .ok (.iconst (-1), 1) := by decide +kernel
theorem dX5_add_35 : decode cX5_add 35 = .ok (.invokestatic 82, 3) := by decide +kernel
theorem dX5_add_38 : decode cX5_add 38 = .ok (.aload_n 0, 1) := by decide +kernel
theorem dX5_add_39 : decode cX5_add 39 = .ok (.getfield 19, 3) := by decide +kernel
theorem dX5_add_42 : decode cX5_add 42 = .ok (.getfield 57, 3) := by decide +kernel
theorem dX5_add_45 : decode cX5_add 45 = .ok (.iconst 2, 1) := by decide +kernel
theorem dX5_add_46 : decode cX5_add 46 = .ok (.iadd, 1) := by decide +kernel
theorem dX5_add_47 : decode cX5_add 47 = .ok (.istore 6, 2) := by decide +kernel
theorem dX5_add_49 : decode cX5_add 49 = .ok (.aload 5, 2) := by decide +kernel
theorem dX5_add_51 : decode cX5_add 51 = .ok (.aload_n 0, 1) := by decide +kernel
theorem dX5_add_52 : decode cX5_add 52 = .ok (.getfield 19, 3) := by decide +kernel
theorem dX5_add_55 : decode cX5_add 55 = .ok (.iconst 0, 1) := by decide +kernel
theorem dX5_add_56 : decode cX5_add 56 = .ok (.aload 5, 2) := by decide +kernel
theorem dX5_add_58 : decode cX5_add 58 = .ok (.invokevirtual 86, 3) := by decide +kernel
theorem dX5_add_61 : decode cX5_add 61 = .ok (.iload 6, 2) := by decide +kernel
theorem dX5_add_63 : decode cX5_add 63 = .ok (.iload_n 2, 1) := by decide +kernel
theorem dX5_add_64 : decode cX5_add 64 = .ok (.iload_n 3, 1) := by decide +kernel
theorem dX5_add_65 : decode cX5_add 65 = .ok (.iload 4, 2) := by decide +kernel
theorem dX5_add_67 : decode cX5_add 67 = .ok (.invokevirtual 90, 3) := by decide +kernel
theorem dX5_add_70 : decode cX5_add 70 = .ok (.invokevirtual 94, 3) := by decide +kernel
theorem dX5_add_73 : decode cX5_add 73 = .ok (.iload 6, 2) := by decide +kernel
theorem dX5_add_75 : decode cX5_add 75 = .ok (.ireturn, 1) := by decide +kernel
set_option maxRecDepth 20000 in
theorem ggX5_set_X5_treeOf : GoodIn wsX5_set wsX5_treeOf := goodIn_ca (goodIn_r _ [8, 9, 10, 11, 12, 7, 13, 14, 15, 149, 150, 151, 152, 153, 154] (by decide +kernel) (by decide +kernel)) (goodIn_sub (fun _ h => List.mem_cons_of_mem _ (List.mem_append_left _ (List.mem_append_right _ h))) (by decide +kernel))
set_option maxRecDepth 20000 in
theorem gX5_set_X5_treeOf : GoodIn wsX5_set (wsV RX5 71 RX5 yX5_treeOf wsX5_treeOf) := goodIn_app (goodIn_of _ (by decide +kernel)) ggX5_set_X5_treeOf
set_option maxRecDepth 20000 in
theorem ggX5_set_X5_checkEntry : GoodIn wsX5_set wsX5_checkEntry := goodIn_ca (goodIn_r _ [18, 14, 15, 19, 20, 21, 22, 23, 24, 155, 156, 157, 158, 159, 160, 161, 162, 163, 164, 165] (by decide +kernel) (by decide +kernel)) (goodIn_sub (fun _ h => List.mem_cons_of_mem _ (List.mem_append_left _ (List.mem_append_right _ h))) (by decide +kernel))
set_option maxRecDepth 20000 in
theorem gX5_set_X5_checkEntry : GoodIn wsX5_set (va_wsS RX5 75 yX5_checkEntry wsX5_checkEntry) := goodIn_app (goodIn_of _ (by decide +kernel)) ggX5_set_X5_checkEntry
set_option maxRecDepth 20000 in
theorem ggX5_set_X5_checkIndex : GoodIn wsX5_set wsX5_checkIndex := goodIn_ca (goodIn_r _ [13, 14, 15] (by decide +kernel) (by decide +kernel)) (goodIn_sub (fun _ h => List.mem_cons_of_mem _ (List.mem_append_left _ (List.mem_append_right _ h))) (by decide +kernel))
set_option maxRecDepth 20000 in
theorem gX5_set_X5_checkIndex : GoodIn wsX5_set (va_wsS RX5 49 yX5_checkIndex wsX5_checkIndex) := goodIn_app (goodIn_of _ (by decide +kernel)) ggX5_set_X5_checkIndex
set_option maxRecDepth 20000 in
theorem ggX5_set_X5_checkArgument : GoodIn wsX5_set wsX5_checkArgument := goodIn_ca (goodIn_r _ [27, 28, 29] (by decide +kernel) (by decide +kernel)) (goodIn_sub (fun _ h => List.mem_cons_of_mem _ (List.mem_append_right _ h)) (by decide +kernel))
set_option maxRecDepth 20000 in
theorem gX5_set_X5_checkArgument : GoodIn wsX5_set (va_wsS RX5 53 yX5_checkArgument wsX5_checkArgument) := goodIn_app (goodIn_of _ (by decide +kernel)) ggX5_set_X5_checkArgument
set_option maxRecDepth 20000 in
theorem ggX5_set_X5_checkRoomForChange : GoodIn wsX5_set wsX5_checkRoomForChange := goodIn_ca (goodIn_r _ [33, 1, 2, 3, 149, 150, 151, 152, 153, 154, 166, 167, 168, 169, 170, 171, 172] (by decide +kernel) (by decide +kernel)) (goodIn_sub (fun _ h => List.mem_cons_of_mem _ (List.mem_append_left _ (List.mem_append_left _ (List.mem_append_right _ h)))) (by decide +kernel))
set_option maxRecDepth 20000 in
theorem gX5_set_X5_checkRoomForChange : GoodIn wsX5_set (wsV RX5 79 RX5 yX5_checkRoomForChange wsX5_checkRoomForChange) := goodIn_app (goodIn_of _ (by decide +kernel)) ggX5_set_X5_checkRoomForChange
set_option maxRecDepth 20000 in
theorem ggX5_set_X4_mayHold : GoodIn wsX5_set wsX4_mayHold := goodIn_r _ [37, 38, 39, 40, 7, 41, 42, 43, 44, 45, 46, 47, 48, 49, 50, 155, 156, 157, 158, 159, 160, 161, 162, 163, 164, 165, 173, 174] (by decide +kernel) (by decide +kernel)
set_option maxRecDepth 20000 in
theorem gX5_set_X4_mayHold : GoodIn wsX5_set (wsV RX5 98 RX4 yX4_mayHold wsX4_mayHold) := goodIn_app (goodIn_of _ (by decide +kernel)) ggX5_set_X4_mayHold
set_option maxRecDepth 20000 in
theorem ggX5_set_X4_valueAt : GoodIn wsX5_set wsX4_valueAt := goodIn_r _ [54, 55, 40, 7, 41, 155, 156, 157, 158, 159, 160, 161, 162, 163, 164, 165] (by decide +kernel) (by decide +kernel)
set_option maxRecDepth 20000 in
theorem gX5_set_X4_valueAt : GoodIn wsX5_set (wsV RX5 104 RX4 yX4_valueAt wsX4_valueAt) := goodIn_app (goodIn_of _ (by decide +kernel)) ggX5_set_X4_valueAt
set_option maxRecDepth 20000 in
theorem ggX5_set_X4_stampOfNext : GoodIn wsX5_set wsX4_stampOfNext := goodIn_r _ [59, 60, 61, 62, 63, 40, 7, 41, 64, 65, 66, 67, 68, 69, 70, 71, 72, 155, 156, 157, 158, 159, 160, 161, 162, 163, 164, 165, 166, 167, 168, 169, 170, 171, 172] (by decide +kernel) (by decide +kernel)
set_option maxRecDepth 20000 in
theorem gX5_set_X4_stampOfNext : GoodIn wsX5_set (wsV RX5 86 RX4 yX4_stampOfNext wsX4_stampOfNext) := goodIn_app (goodIn_of _ (by decide +kernel)) ggX5_set_X4_stampOfNext
set_option maxRecDepth 20000 in
theorem ggX5_set_X2_append : GoodIn wsX5_set wsX2_append := goodIn_r _ [76, 77, 78, 69, 79, 80, 81, 82, 83, 7, 84, 166, 167, 168, 169, 170, 171, 172] (by decide +kernel) (by decide +kernel)
set_option maxRecDepth 20000 in
theorem gX5_set_X2_append : GoodIn wsX5_set (wsV RX5 90 RX2 yX2_append wsX2_append) := goodIn_app (goodIn_of _ (by decide +kernel)) ggX5_set_X2_append
set_option maxRecDepth 20000 in
theorem ggX5_set_X4_learn : GoodIn wsX5_set wsX4_learn := goodIn_r _ [88, 60, 62, 89, 90, 91, 22, 92, 61, 40, 7, 41, 93, 94, 95, 67, 96, 69, 83, 84, 97, 98, 99, 100, 24, 101, 102, 39, 55, 103, 104, 105, 106, 107, 108, 109, 110, 111, 112, 113, 114, 115, 116, 117, 118, 119, 120, 20, 21, 23, 121, 122, 123, 124, 125, 126, 127, 128, 129, 130, 131, 132, 35, 36, 37, 38, 42, 43, 44, 45, 46, 47, 48, 49, 50, 133, 134, 135, 136, 137, 138, 139, 140, 141, 142, 143, 144, 145, 146, 147, 148, 155, 156, 157, 158, 159, 160, 161, 162, 163, 164, 165, 166, 167, 168, 169, 170, 171, 172, 173, 174] (by decide +kernel) (by decide +kernel)
set_option maxRecDepth 20000 in
theorem gX5_set_X4_learn : GoodIn wsX5_set (wsV RX5 94 RX4 yX4_learn wsX4_learn) := goodIn_app (goodIn_of _ (by decide +kernel)) ggX5_set_X4_learn
theorem dX5_set_0 : decode cX5_set 0 = .ok (.aload_n 0, 1) := by decide +kernel
theorem dX5_set_1 : decode cX5_set 1 = .ok (.iload_n 1, 1) := by decide +kernel
theorem dX5_set_2 : decode cX5_set 2 = .ok (.invokevirtual 71, 3) := by decide +kernel
theorem dX5_set_5 : decode cX5_set 5 = .ok (.astore 5, 2) := by decide +kernel
theorem dX5_set_7 : decode cX5_set 7 = .ok (.aload 5, 2) := by decide +kernel
theorem dX5_set_9 : decode cX5_set 9 = .ok (.iload_n 2, 1) := by decide +kernel
theorem dX5_set_10 : decode cX5_set 10 = .ok (.invokestatic 75, 3) := by decide +kernel
theorem dX5_set_13 : decode cX5_set 13 = .ok (.iload_n 3, 1) := by decide +kernel
theorem dX5_set_14 : decode cX5_set 14 = .ok (.iconst 4, 1) := by decide +kernel
theorem dX5_set_15 : decode cX5_set 15 = .ok (.invokestatic 49, 3) := by decide +kernel
theorem dX5_set_18 : decode cX5_set 18 = .ok (.iload 4, 2) := by decide +kernel
theorem dX5_set_20 : decode cX5_set 20 = .ok (.iconst (-1), 1) := by decide +kernel
theorem dX5_set_21 : decode cX5_set 21 = .ok (.bipush 9, 2) := by decide +kernel
theorem dX5_set_23 : decode cX5_set 23 = .ok (.invokestatic 53, 3) := by decide +kernel
theorem dX5_set_26 : decode cX5_set 26 = .ok (.aload_n 0, 1) := by decide +kernel
theorem dX5_set_27 : decode cX5_set 27 = .ok (.invokevirtual 79, 3) := by decide +kernel
theorem dX5_set_30 : decode cX5_set 30 = .ok (.aload 5, 2) := by decide +kernel
theorem dX5_set_32 : decode cX5_set 32 = .ok (.iload_n 2, 1) := by decide +kernel
theorem dX5_set_33 : decode cX5_set 33 = .ok (.iload_n 3, 1) := by decide +kernel
theorem dX5_set_34 : decode cX5_set 34 = .ok (.invokevirtual 98, 3) := by decide +kernel
theorem dX5_set_37 : decode cX5_set 37 = .ok (.ifCond .ne 13, 3) := by decide +kernel
theorem dX5_set_40 : decode cX5_set 40 = .ok (.new 61, 3) := by decide +kernel
theorem dX5_set_43 : decode cX5_set 43 = .ok (.dup, 1) := by decide +kernel
theorem dX5_set_44 : decode cX5_set 44 = .ok (.ldc 102, 2) := by decide +kernel
theorem dX5_set_46 : decode cX5_set 46 = .ok (.invokespecial 65, 3) := by decide +kernel
theorem dX5_set_49 : decode cX5_set 49 = .ok (.athrow, 1) := by decide +kernel
theorem dX5_set_50 : decode cX5_set 50 = .ok (.aload 5, 2) := by decide +kernel
theorem dX5_set_52 : decode cX5_set 52 = .ok (.iload_n 2, 1) := by decide +kernel
theorem dX5_set_53 : decode cX5_set 53 = .ok (.iload_n 3, 1) := by decide +kernel
theorem dX5_set_54 : decode cX5_set 54 = .ok (.invokevirtual 104, 3) := by decide +kernel
theorem dX5_set_57 : decode cX5_set 57 = .ok (.istore 6, 2) := by decide +kernel
theorem dX5_set_59 : decode cX5_set 59 = .ok (.aload 5, 2) := by decide +kernel
theorem dX5_set_61 : decode cX5_set 61 = .ok (.aload_n 0, 1) := by decide +kernel
theorem dX5_set_62 : decode cX5_set 62 = .ok (.getfield 19, 3) := by decide +kernel
theorem dX5_set_65 : decode cX5_set 65 = .ok (.iconst 1, 1) := by decide +kernel
theorem dX5_set_66 : decode cX5_set 66 = .ok (.aload 5, 2) := by decide +kernel
theorem dX5_set_68 : decode cX5_set 68 = .ok (.invokevirtual 86, 3) := by decide +kernel
theorem dX5_set_71 : decode cX5_set 71 = .ok (.iload_n 2, 1) := by decide +kernel
theorem dX5_set_72 : decode cX5_set 72 = .ok (.iload_n 3, 1) := by decide +kernel
theorem dX5_set_73 : decode cX5_set 73 = .ok (.iload 4, 2) := by decide +kernel
theorem dX5_set_75 : decode cX5_set 75 = .ok (.iconst (-1), 1) := by decide +kernel
theorem dX5_set_76 : decode cX5_set 76 = .ok (.invokevirtual 90, 3) := by decide +kernel
theorem dX5_set_79 : decode cX5_set 79 = .ok (.invokevirtual 94, 3) := by decide +kernel
theorem dX5_set_82 : decode cX5_set 82 = .ok (.iload 6, 2) := by decide +kernel
theorem dX5_set_84 : decode cX5_set 84 = .ok (.ireturn, 1) := by decide +kernel
set_option maxRecDepth 20000 in
theorem ggX5_move_X5_treeOf : GoodIn wsX5_move wsX5_treeOf := goodIn_ca (goodIn_r _ [8, 9, 10, 11, 12, 7, 13, 14, 15, 153, 154, 155, 156, 157, 158] (by decide +kernel) (by decide +kernel)) (goodIn_sub (fun _ h => List.mem_cons_of_mem _ (List.mem_append_left _ (List.mem_append_right _ h))) (by decide +kernel))
set_option maxRecDepth 20000 in
theorem gX5_move_X5_treeOf : GoodIn wsX5_move (wsV RX5 71 RX5 yX5_treeOf wsX5_treeOf) := goodIn_app (goodIn_of _ (by decide +kernel)) ggX5_move_X5_treeOf
set_option maxRecDepth 20000 in
theorem ggX5_move_X5_checkEntry : GoodIn wsX5_move wsX5_checkEntry := goodIn_ca (goodIn_r _ [18, 14, 15, 19, 20, 21, 22, 23, 24, 159, 160, 161, 162, 163, 164, 165, 166, 167, 168, 169] (by decide +kernel) (by decide +kernel)) (goodIn_sub (fun _ h => List.mem_cons_of_mem _ (List.mem_append_left _ (List.mem_append_right _ h))) (by decide +kernel))
set_option maxRecDepth 20000 in
theorem gX5_move_X5_checkEntry : GoodIn wsX5_move (va_wsS RX5 75 yX5_checkEntry wsX5_checkEntry) := goodIn_app (goodIn_of _ (by decide +kernel)) ggX5_move_X5_checkEntry
set_option maxRecDepth 20000 in
theorem ggX5_move_X5_checkArgument : GoodIn wsX5_move wsX5_checkArgument := goodIn_ca (goodIn_r _ [27, 28, 29] (by decide +kernel) (by decide +kernel)) (goodIn_sub (fun _ h => List.mem_cons_of_mem _ (List.mem_append_right _ h)) (by decide +kernel))
set_option maxRecDepth 20000 in
theorem gX5_move_X5_checkArgument : GoodIn wsX5_move (va_wsS RX5 53 yX5_checkArgument wsX5_checkArgument) := goodIn_app (goodIn_of _ (by decide +kernel)) ggX5_move_X5_checkArgument
set_option maxRecDepth 20000 in
theorem ggX5_move_X5_checkRoomForChange : GoodIn wsX5_move wsX5_checkRoomForChange := goodIn_ca (goodIn_r _ [33, 1, 2, 3, 153, 154, 155, 156, 157, 158, 170, 171, 172, 173, 174, 175, 176] (by decide +kernel) (by decide +kernel)) (goodIn_sub (fun _ h => List.mem_cons_of_mem _ (List.mem_append_left _ (List.mem_append_left _ (List.mem_append_right _ h)))) (by decide +kernel))
set_option maxRecDepth 20000 in
theorem gX5_move_X5_checkRoomForChange : GoodIn wsX5_move (wsV RX5 79 RX5 yX5_checkRoomForChange wsX5_checkRoomForChange) := goodIn_app (goodIn_of _ (by decide +kernel)) ggX5_move_X5_checkRoomForChange
set_option maxRecDepth 20000 in
theorem ggX5_move_X5_checkIsNotFixed : GoodIn wsX5_move wsX5_checkIsNotFixed := goodIn_ca (goodIn_r _ [36, 1, 2] (by decide +kernel) (by decide +kernel)) (goodIn_sub (fun _ h => List.mem_cons_of_mem _ (List.mem_append_left _ (List.mem_append_left _ (List.mem_append_right _ h)))) (by decide +kernel))
set_option maxRecDepth 20000 in
theorem gX5_move_X5_checkIsNotFixed : GoodIn wsX5_move (va_wsS RX5 108 yX5_checkIsNotFixed wsX5_checkIsNotFixed) := goodIn_app (goodIn_of _ (by decide +kernel)) ggX5_move_X5_checkIsNotFixed
set_option maxRecDepth 20000 in
theorem ggX5_move_X4_isAtOrBelow : GoodIn wsX5_move wsX4_isAtOrBelow := goodIn_r _ [40, 41, 42, 43, 22, 44, 45, 46, 7, 47, 159, 160, 161, 162, 163, 164, 165, 166, 167, 168, 169] (by decide +kernel) (by decide +kernel)
set_option maxRecDepth 20000 in
theorem gX5_move_X4_isAtOrBelow : GoodIn wsX5_move (wsV RX5 111 RX4 yX4_isAtOrBelow wsX4_isAtOrBelow) := goodIn_app (goodIn_of _ (by decide +kernel)) ggX5_move_X4_isAtOrBelow
set_option maxRecDepth 20000 in
theorem ggX5_move_X5_checkLabelIsFree : GoodIn wsX5_move wsX5_checkLabelIsFree := goodIn_ca (goodIn_r _ [50, 1, 2, 51, 52, 53, 22, 54, 45, 55, 56, 57, 58, 159, 160, 161, 162, 163, 164, 165, 166, 167, 168, 169] (by decide +kernel) (by decide +kernel)) (goodIn_sub (fun _ h => List.mem_cons_of_mem _ (List.mem_append_left _ (List.mem_append_left _ (List.mem_append_right _ h)))) (by decide +kernel))
set_option maxRecDepth 20000 in
theorem gX5_move_X5_checkLabelIsFree : GoodIn wsX5_move (va_wsS RX5 82 yX5_checkLabelIsFree wsX5_checkLabelIsFree) := goodIn_app (goodIn_of _ (by decide +kernel)) ggX5_move_X5_checkLabelIsFree
set_option maxRecDepth 20000 in
theorem ggX5_move_X4_parentAt : GoodIn wsX5_move wsX4_parentAt := goodIn_r _ [44, 45, 46, 7, 47, 159, 160, 161, 162, 163, 164, 165, 166, 167, 168, 169] (by decide +kernel) (by decide +kernel)
set_option maxRecDepth 20000 in
theorem gX5_move_X4_parentAt : GoodIn wsX5_move (wsV RX5 116 RX4 yX4_parentAt wsX4_parentAt) := goodIn_app (goodIn_of _ (by decide +kernel)) ggX5_move_X4_parentAt
set_option maxRecDepth 20000 in
theorem ggX5_move_X4_stampOfNext : GoodIn wsX5_move wsX4_stampOfNext := goodIn_r _ [63, 64, 65, 66, 67, 46, 7, 47, 68, 69, 70, 71, 72, 73, 74, 75, 76, 159, 160, 161, 162, 163, 164, 165, 166, 167, 168, 169, 170, 171, 172, 173, 174, 175, 176] (by decide +kernel) (by decide +kernel)
set_option maxRecDepth 20000 in
theorem gX5_move_X4_stampOfNext : GoodIn wsX5_move (wsV RX5 86 RX4 yX4_stampOfNext wsX4_stampOfNext) := goodIn_app (goodIn_of _ (by decide +kernel)) ggX5_move_X4_stampOfNext
set_option maxRecDepth 20000 in
theorem ggX5_move_X2_append : GoodIn wsX5_move wsX2_append := goodIn_r _ [80, 81, 82, 73, 83, 84, 85, 86, 87, 7, 88, 170, 171, 172, 173, 174, 175, 176] (by decide +kernel) (by decide +kernel)
set_option maxRecDepth 20000 in
theorem gX5_move_X2_append : GoodIn wsX5_move (wsV RX5 90 RX2 yX2_append wsX2_append) := goodIn_app (goodIn_of _ (by decide +kernel)) ggX5_move_X2_append
set_option maxRecDepth 20000 in
theorem ggX5_move_X4_learn : GoodIn wsX5_move wsX4_learn := goodIn_r _ [92, 64, 66, 93, 94, 95, 22, 96, 65, 46, 7, 47, 97, 98, 99, 71, 100, 73, 87, 88, 101, 102, 103, 104, 24, 45, 55, 105, 106, 107, 108, 109, 110, 111, 112, 113, 114, 115, 116, 117, 118, 119, 120, 121, 122, 123, 124, 20, 21, 23, 125, 52, 53, 54, 56, 57, 58, 126, 127, 128, 129, 130, 131, 132, 133, 134, 135, 136, 137, 138, 139, 140, 141, 142, 143, 144, 145, 146, 147, 148, 38, 39, 40, 41, 42, 43, 44, 149, 150, 151, 152, 159, 160, 161, 162, 163, 164, 165, 166, 167, 168, 169, 170, 171, 172, 173, 174, 175, 176, 177, 178] (by decide +kernel) (by decide +kernel)
set_option maxRecDepth 20000 in
theorem gX5_move_X4_learn : GoodIn wsX5_move (wsV RX5 94 RX4 yX4_learn wsX4_learn) := goodIn_app (goodIn_of _ (by decide +kernel)) ggX5_move_X4_learn
theorem dX5_move_0 : decode cX5_move 0 = .ok (.aload_n 0, 1) := by decide +kernel
theorem dX5_move_1 : decode cX5_move 1 = .ok (.iload_n 1, 1) := by decide +kernel
theorem dX5_move_2 : decode cX5_move 2 = .ok (.invokevirtual 71, 3) := by decide +kernel
theorem dX5_move_5 : decode cX5_move 5 = .ok (.astore 5, 2) := by decide +kernel
theorem dX5_move_7 : decode cX5_move 7 = .ok (.aload 5, 2) := by decide +kernel
theorem dX5_move_9 : decode cX5_move 9 = .ok (.iload_n 2, 1) := by decide +kernel
theorem dX5_move_10 : decode cX5_move 10 = .ok (.invokestatic 75, 3) := by decide +kernel
theorem dX5_move_13 : decode cX5_move 13 = .ok (.aload 5, 2) := by decide +kernel
theorem dX5_move_15 : decode cX5_move 15 = .ok (.iload_n 3, 1) := by decide +kernel
theorem dX5_move_16 : decode cX5_move 16 = .ok (.invokestatic 75, 3) := by decide +kernel
theorem dX5_move_19 : decode cX5_move 19 = .ok (.iload 4, 2) := by decide +kernel
theorem dX5_move_21 : decode cX5_move 21 = .ok (.iconst 0, 1) := by decide +kernel
theorem dX5_move_22 : decode cX5_move 22 = .ok (.bipush 99, 2) := by decide +kernel
theorem dX5_move_24 : decode cX5_move 24 = .ok (.invokestatic 53, 3) := by decide +kernel
theorem dX5_move_27 : decode cX5_move 27 = .ok (.aload_n 0, 1) := by decide +kernel
theorem dX5_move_28 : decode cX5_move 28 = .ok (.invokevirtual 79, 3) := by decide +kernel
theorem dX5_move_31 : decode cX5_move 31 = .ok (.iload_n 2, 1) := by decide +kernel
theorem dX5_move_32 : decode cX5_move 32 = .ok (.invokestatic 108, 3) := by decide +kernel
theorem dX5_move_35 : decode cX5_move 35 = .ok (.aload 5, 2) := by decide +kernel
theorem dX5_move_37 : decode cX5_move 37 = .ok (.iload_n 3, 1) := by decide +kernel
theorem dX5_move_38 : decode cX5_move 38 = .ok (.iload_n 2, 1) := by decide +kernel
theorem dX5_move_39 : decode cX5_move 39 = .ok (.invokevirtual 111, 3) := by decide +kernel
theorem dX5_move_42 : decode cX5_move 42 = .ok (.ifCond .eq 13, 3) := by decide +kernel
theorem dX5_move_45 : decode cX5_move 45 = .ok (.new 61, 3) := by decide +kernel
theorem dX5_move_48 : decode cX5_move 48 = .ok (.dup, 1) := by decide +kernel
theorem dX5_move_49 : decode cX5_move 49 = .ok (.ldc 114, 2) := by decide +kernel
theorem dX5_move_51 : decode cX5_move 51 = .ok (.invokespecial 65, 3) := by decide +kernel
theorem dX5_move_54 : decode cX5_move 54 = .ok (.athrow, 1) := by decide +kernel
theorem dX5_move_55 : decode cX5_move 55 = .ok (.aload 5, 2) := by decide +kernel
theorem dX5_move_57 : decode cX5_move 57 = .ok (.iload_n 3, 1) := by decide +kernel
theorem dX5_move_58 : decode cX5_move 58 = .ok (.iload 4, 2) := by decide +kernel
theorem dX5_move_60 : decode cX5_move 60 = .ok (.iload_n 2, 1) := by decide +kernel
theorem dX5_move_61 : decode cX5_move 61 = .ok (.invokestatic 82, 3) := by decide +kernel
theorem dX5_move_64 : decode cX5_move 64 = .ok (.aload 5, 2) := by decide +kernel
theorem dX5_move_66 : decode cX5_move 66 = .ok (.iload_n 2, 1) := by decide +kernel
theorem dX5_move_67 : decode cX5_move 67 = .ok (.invokevirtual 116, 3) := by decide +kernel
theorem dX5_move_70 : decode cX5_move 70 = .ok (.istore 6, 2) := by decide +kernel
theorem dX5_move_72 : decode cX5_move 72 = .ok (.aload 5, 2) := by decide +kernel
theorem dX5_move_74 : decode cX5_move 74 = .ok (.aload_n 0, 1) := by decide +kernel
theorem dX5_move_75 : decode cX5_move 75 = .ok (.getfield 19, 3) := by decide +kernel
theorem dX5_move_78 : decode cX5_move 78 = .ok (.iconst 2, 1) := by decide +kernel
theorem dX5_move_79 : decode cX5_move 79 = .ok (.aload 5, 2) := by decide +kernel
theorem dX5_move_81 : decode cX5_move 81 = .ok (.invokevirtual 86, 3) := by decide +kernel
theorem dX5_move_84 : decode cX5_move 84 = .ok (.iload_n 2, 1) := by decide +kernel
theorem dX5_move_85 : decode cX5_move 85 = .ok (.iload_n 3, 1) := by decide +kernel
theorem dX5_move_86 : decode cX5_move 86 = .ok (.iload 4, 2) := by decide +kernel
theorem dX5_move_88 : decode cX5_move 88 = .ok (.iconst (-1), 1) := by decide +kernel
theorem dX5_move_89 : decode cX5_move 89 = .ok (.invokevirtual 90, 3) := by decide +kernel
theorem dX5_move_92 : decode cX5_move 92 = .ok (.invokevirtual 94, 3) := by decide +kernel
theorem dX5_move_95 : decode cX5_move 95 = .ok (.iload 6, 2) := by decide +kernel
theorem dX5_move_97 : decode cX5_move 97 = .ok (.ireturn, 1) := by decide +kernel
set_option maxRecDepth 20000 in
theorem ggX5_delete_X5_treeOf : GoodIn wsX5_delete wsX5_treeOf := goodIn_ca (goodIn_r _ [8, 9, 10, 11, 12, 7, 13, 14, 15, 146, 147, 148, 149, 150, 151] (by decide +kernel) (by decide +kernel)) (goodIn_sub (fun _ h => List.mem_cons_of_mem _ (List.mem_append_right _ h)) (by decide +kernel))
set_option maxRecDepth 20000 in
theorem gX5_delete_X5_treeOf : GoodIn wsX5_delete (wsV RX5 71 RX5 yX5_treeOf wsX5_treeOf) := goodIn_app (goodIn_of _ (by decide +kernel)) ggX5_delete_X5_treeOf
set_option maxRecDepth 20000 in
theorem ggX5_delete_X5_checkEntry : GoodIn wsX5_delete wsX5_checkEntry := goodIn_ca (goodIn_r _ [18, 14, 15, 19, 20, 21, 22, 23, 24, 152, 153, 154, 155, 156, 157, 158, 159, 160, 161, 162] (by decide +kernel) (by decide +kernel)) (goodIn_sub (fun _ h => List.mem_cons_of_mem _ (List.mem_append_right _ h)) (by decide +kernel))
set_option maxRecDepth 20000 in
theorem gX5_delete_X5_checkEntry : GoodIn wsX5_delete (va_wsS RX5 75 yX5_checkEntry wsX5_checkEntry) := goodIn_app (goodIn_of _ (by decide +kernel)) ggX5_delete_X5_checkEntry
set_option maxRecDepth 20000 in
theorem ggX5_delete_X5_checkRoomForChange : GoodIn wsX5_delete wsX5_checkRoomForChange := goodIn_ca (goodIn_r _ [28, 1, 2, 3, 146, 147, 148, 149, 150, 151, 163, 164, 165, 166, 167, 168, 169] (by decide +kernel) (by decide +kernel)) (goodIn_sub (fun _ h => List.mem_cons_of_mem _ (List.mem_append_left _ (List.mem_append_right _ h))) (by decide +kernel))
set_option maxRecDepth 20000 in
theorem gX5_delete_X5_checkRoomForChange : GoodIn wsX5_delete (wsV RX5 79 RX5 yX5_checkRoomForChange wsX5_checkRoomForChange) := goodIn_app (goodIn_of _ (by decide +kernel)) ggX5_delete_X5_checkRoomForChange
set_option maxRecDepth 20000 in
theorem ggX5_delete_X5_checkIsNotFixed : GoodIn wsX5_delete wsX5_checkIsNotFixed := goodIn_ca (goodIn_r _ [31, 1, 2] (by decide +kernel) (by decide +kernel)) (goodIn_sub (fun _ h => List.mem_cons_of_mem _ (List.mem_append_left _ (List.mem_append_right _ h))) (by decide +kernel))
set_option maxRecDepth 20000 in
theorem gX5_delete_X5_checkIsNotFixed : GoodIn wsX5_delete (va_wsS RX5 108 yX5_checkIsNotFixed wsX5_checkIsNotFixed) := goodIn_app (goodIn_of _ (by decide +kernel)) ggX5_delete_X5_checkIsNotFixed
set_option maxRecDepth 20000 in
theorem ggX5_delete_X4_hasChild : GoodIn wsX5_delete wsX4_hasChild := goodIn_r _ [35, 36, 152, 153, 154, 155, 156, 157, 158, 159, 160, 161, 162] (by decide +kernel) (by decide +kernel)
set_option maxRecDepth 20000 in
theorem gX5_delete_X4_hasChild : GoodIn wsX5_delete (wsV RX5 120 RX4 yX4_hasChild wsX4_hasChild) := goodIn_app (goodIn_of _ (by decide +kernel)) ggX5_delete_X4_hasChild
set_option maxRecDepth 20000 in
theorem ggX5_delete_X4_stampOfNext : GoodIn wsX5_delete wsX4_stampOfNext := goodIn_r _ [40, 41, 42, 43, 44, 45, 7, 46, 47, 48, 49, 50, 51, 52, 53, 54, 55, 152, 153, 154, 155, 156, 157, 158, 159, 160, 161, 162, 163, 164, 165, 166, 167, 168, 169] (by decide +kernel) (by decide +kernel)
set_option maxRecDepth 20000 in
theorem gX5_delete_X4_stampOfNext : GoodIn wsX5_delete (wsV RX5 86 RX4 yX4_stampOfNext wsX4_stampOfNext) := goodIn_app (goodIn_of _ (by decide +kernel)) ggX5_delete_X4_stampOfNext
set_option maxRecDepth 20000 in
theorem ggX5_delete_X2_append : GoodIn wsX5_delete wsX2_append := goodIn_r _ [59, 60, 61, 52, 62, 63, 64, 65, 66, 7, 67, 163, 164, 165, 166, 167, 168, 169] (by decide +kernel) (by decide +kernel)
set_option maxRecDepth 20000 in
theorem gX5_delete_X2_append : GoodIn wsX5_delete (wsV RX5 90 RX2 yX2_append wsX2_append) := goodIn_app (goodIn_of _ (by decide +kernel)) ggX5_delete_X2_append
set_option maxRecDepth 20000 in
theorem ggX5_delete_X4_learn : GoodIn wsX5_delete wsX4_learn := goodIn_r _ [71, 41, 43, 72, 73, 74, 22, 75, 42, 45, 7, 46, 76, 77, 78, 50, 79, 52, 66, 67, 80, 81, 82, 83, 24, 36, 84, 85, 86, 87, 88, 89, 90, 91, 92, 93, 94, 95, 96, 97, 98, 99, 100, 101, 102, 103, 104, 20, 21, 23, 105, 106, 107, 108, 109, 110, 111, 112, 113, 114, 115, 116, 117, 118, 119, 120, 121, 122, 123, 124, 125, 126, 127, 128, 129, 130, 131, 132, 133, 134, 135, 136, 137, 138, 139, 140, 141, 142, 143, 144, 145, 152, 153, 154, 155, 156, 157, 158, 159, 160, 161, 162, 163, 164, 165, 166, 167, 168, 169, 170, 171] (by decide +kernel) (by decide +kernel)
set_option maxRecDepth 20000 in
theorem gX5_delete_X4_learn : GoodIn wsX5_delete (wsV RX5 94 RX4 yX4_learn wsX4_learn) := goodIn_app (goodIn_of _ (by decide +kernel)) ggX5_delete_X4_learn
theorem dX5_delete_0 : decode cX5_delete 0 = .ok (.aload_n 0, 1) := by decide +kernel
theorem dX5_delete_1 : decode cX5_delete 1 = .ok (.iload_n 1, 1) := by decide +kernel
theorem dX5_delete_2 : decode cX5_delete 2 = .ok (.invokevirtual 71, 3) := by decide +kernel
theorem dX5_delete_5 : decode cX5_delete 5 = .ok (.astore_n 3, 1) := by decide +kernel
theorem dX5_delete_6 : decode cX5_delete 6 = .ok (.aload_n 3, 1) := by decide +kernel
theorem dX5_delete_7 : decode cX5_delete 7 = .ok (.iload_n 2, 1) := by decide +kernel
theorem dX5_delete_8 : decode cX5_delete 8 = .ok (.invokestatic 75, 3) := by decide +kernel
theorem dX5_delete_11 : decode cX5_delete 11 = .ok (.aload_n 0, 1) := by decide +kernel
theorem dX5_delete_12 : decode cX5_delete 12 = .ok (.invokevirtual 79, 3) := by decide +kernel
theorem dX5_delete_15 : decode cX5_delete 15 = .ok (.iload_n 2, 1) := by decide +kernel
theorem dX5_delete_16 : decode cX5_delete 16 = .ok (.invokestatic 108, 3) := by decide +kernel
theorem dX5_delete_19 : decode cX5_delete 19 = .ok (.aload_n 3, 1) := by decide +kernel
theorem dX5_delete_20 : decode cX5_delete 20 = .ok (.iload_n 2, 1) := by decide +kernel
theorem dX5_delete_21 : decode cX5_delete 21 = .ok (.invokevirtual 120, 3) := by decide +kernel
theorem dX5_delete_24 : decode cX5_delete 24 = .ok (.ifCond .eq 13, 3) := by decide +kernel
theorem dX5_delete_27 : decode cX5_delete 27 = .ok (.new 61, 3) := by decide +kernel
theorem dX5_delete_30 : decode cX5_delete 30 = .ok (.dup, 1) := by decide +kernel
theorem dX5_delete_31 : decode cX5_delete 31 = .ok (.ldc 124, 2) := by decide +kernel
theorem dX5_delete_33 : decode cX5_delete 33 = .ok (.invokespecial 65, 3) := by decide +kernel
theorem dX5_delete_36 : decode cX5_delete 36 = .ok (.athrow, 1) := by decide +kernel
theorem dX5_delete_37 : decode cX5_delete 37 = .ok (.aload_n 3, 1) := by decide +kernel
theorem dX5_delete_38 : decode cX5_delete 38 = .ok (.aload_n 0, 1) := by decide +kernel
theorem dX5_delete_39 : decode cX5_delete 39 = .ok (.getfield 19, 3) := by decide +kernel
theorem dX5_delete_42 : decode cX5_delete 42 = .ok (.iconst 3, 1) := by decide +kernel
theorem dX5_delete_43 : decode cX5_delete 43 = .ok (.aload_n 3, 1) := by decide +kernel
theorem dX5_delete_44 : decode cX5_delete 44 = .ok (.invokevirtual 86, 3) := by decide +kernel
theorem dX5_delete_47 : decode cX5_delete 47 = .ok (.iload_n 2, 1) := by decide +kernel
theorem dX5_delete_48 : decode cX5_delete 48 = .ok (.iconst (-1), 1) := by decide +kernel
theorem dX5_delete_49 : decode cX5_delete 49 = .ok (.iconst (-1), 1) := by decide +kernel
theorem dX5_delete_50 : decode cX5_delete 50 = .ok (.iconst (-1), 1) := by decide +kernel
theorem dX5_delete_51 : decode cX5_delete 51 = .ok (.invokevirtual 90, 3) := by decide +kernel
theorem dX5_delete_54 : decode cX5_delete 54 = .ok (.invokevirtual 94, 3) := by decide +kernel
theorem dX5_delete_57 : decode cX5_delete 57 = .ok (.aload_n 3, 1) := by decide +kernel
theorem dX5_delete_58 : decode cX5_delete 58 = .ok (.getfield 126, 3) := by decide +kernel
theorem dX5_delete_61 : decode cX5_delete 61 = .ok (.ireturn, 1) := by decide +kernel
set_option maxRecDepth 20000 in
theorem ggX5_carry_X5_checkIndex : GoodIn wsX5_carry wsX5_checkIndex := goodIn_ca (goodIn_r _ [5, 6, 7] (by decide +kernel) (by decide +kernel)) (goodIn_sub (fun _ h => List.mem_cons_of_mem _ (List.mem_append_right _ h)) (by decide +kernel))
set_option maxRecDepth 20000 in
theorem gX5_carry_X5_checkIndex : GoodIn wsX5_carry (va_wsS RX5 49 yX5_checkIndex wsX5_checkIndex) := goodIn_app (goodIn_of _ (by decide +kernel)) ggX5_carry_X5_checkIndex
set_option maxRecDepth 20000 in
theorem ggX5_carry_X5_treeOf : GoodIn wsX5_carry wsX5_treeOf := goodIn_ca (goodIn_r _ [11, 12, 13, 2, 3, 4, 5, 6, 7, 111, 112, 113, 114, 115, 116] (by decide +kernel) (by decide +kernel)) (goodIn_sub (fun _ h => List.mem_cons_of_mem _ (List.mem_append_right _ h)) (by decide +kernel))
set_option maxRecDepth 20000 in
theorem gX5_carry_X5_treeOf : GoodIn wsX5_carry (wsV RX5 71 RX5 yX5_treeOf wsX5_treeOf) := goodIn_app (goodIn_of _ (by decide +kernel)) ggX5_carry_X5_treeOf
set_option maxRecDepth 20000 in
theorem ggX5_carry_X4_knows : GoodIn wsX5_carry wsX4_knows := goodIn_r _ [18, 19, 20, 124, 125, 126, 127, 128, 129, 130, 131, 132, 133, 134] (by decide +kernel) (by decide +kernel)
set_option maxRecDepth 20000 in
theorem gX5_carry_X4_knows : GoodIn wsX5_carry (wsV RX5 129 RX4 yX4_knows wsX4_knows) := goodIn_app (goodIn_of _ (by decide +kernel)) ggX5_carry_X4_knows
set_option maxRecDepth 20000 in
theorem ggX5_carry_X4_learn : GoodIn wsX5_carry wsX4_learn := goodIn_r _ [24, 19, 20, 25, 26, 27, 17, 28, 29, 30, 4, 31, 32, 33, 34, 35, 36, 37, 38, 39, 40, 41, 42, 43, 44, 45, 46, 47, 48, 49, 50, 51, 52, 53, 54, 55, 56, 57, 58, 59, 60, 61, 62, 63, 64, 65, 66, 67, 68, 69, 70, 71, 72, 73, 74, 75, 76, 77, 78, 79, 80, 81, 82, 83, 84, 85, 86, 87, 88, 89, 90, 91, 92, 93, 94, 95, 96, 97, 98, 99, 100, 101, 102, 103, 104, 105, 106, 107, 108, 109, 110, 124, 125, 126, 127, 128, 129, 130, 131, 132, 133, 134, 117, 118, 119, 120, 121, 122, 123, 135, 136] (by decide +kernel) (by decide +kernel)
set_option maxRecDepth 20000 in
theorem gX5_carry_X4_learn : GoodIn wsX5_carry (wsV RX5 94 RX4 yX4_learn wsX4_learn) := goodIn_app (goodIn_of _ (by decide +kernel)) ggX5_carry_X4_learn
theorem dX5_carry_0 : decode cX5_carry 0 = .ok (.iload_n 1, 1) := by decide +kernel
theorem dX5_carry_1 : decode cX5_carry 1 = .ok (.aload_n 0, 1) := by decide +kernel
theorem dX5_carry_2 : decode cX5_carry 2 = .ok (.getfield 19, 3) := by decide +kernel
theorem dX5_carry_5 : decode cX5_carry 5 = .ok (.getfield 57, 3) := by decide +kernel
theorem dX5_carry_8 : decode cX5_carry 8 = .ok (.invokestatic 49, 3) := by decide +kernel
theorem dX5_carry_11 : decode cX5_carry 11 = .ok (.aload_n 0, 1) := by decide +kernel
theorem dX5_carry_12 : decode cX5_carry 12 = .ok (.iload_n 2, 1) := by decide +kernel
theorem dX5_carry_13 : decode cX5_carry 13 = .ok (.invokevirtual 71, 3) := by decide +kernel
theorem dX5_carry_16 : decode cX5_carry 16 = .ok (.astore_n 3, 1) := by decide +kernel
theorem dX5_carry_17 : decode cX5_carry 17 = .ok (.aload_n 3, 1) := by decide +kernel
theorem dX5_carry_18 : decode cX5_carry 18 = .ok (.iload_n 1, 1) := by decide +kernel
theorem dX5_carry_19 : decode cX5_carry 19 = .ok (.invokevirtual 129, 3) := by decide +kernel
theorem dX5_carry_22 : decode cX5_carry 22 = .ok (.ifCond .eq 5, 3) := by decide +kernel
theorem dX5_carry_25 : decode cX5_carry 25 = .ok (.iconst 0, 1) := by decide +kernel
theorem dX5_carry_26 : decode cX5_carry 26 = .ok (.ireturn, 1) := by decide +kernel
theorem dX5_carry_27 : decode cX5_carry 27 = .ok (.aload_n 3, 1) := by decide +kernel
theorem dX5_carry_28 : decode cX5_carry 28 = .ok (.iload_n 1, 1) := by decide +kernel
theorem dX5_carry_29 : decode cX5_carry 29 = .ok (.invokevirtual 94, 3) := by decide +kernel
theorem dX5_carry_32 : decode cX5_carry 32 = .ok (.iconst 1, 1) := by decide +kernel
theorem dX5_carry_33 : decode cX5_carry 33 = .ok (.ireturn, 1) := by decide +kernel
theorem dX5_changes_0 : decode cX5_changes 0 = .ok (.aload_n 0, 1) := by decide +kernel
theorem dX5_changes_1 : decode cX5_changes 1 = .ok (.getfield 19, 3) := by decide +kernel
theorem dX5_changes_4 : decode cX5_changes 4 = .ok (.getfield 57, 3) := by decide +kernel
theorem dX5_changes_7 : decode cX5_changes 7 = .ok (.ireturn, 1) := by decide +kernel
set_option maxRecDepth 20000 in
theorem ggX5_timeOf_X5_checkIndex : GoodIn wsX5_timeOf wsX5_checkIndex := goodIn_ca (goodIn_r _ [5, 6, 7] (by decide +kernel) (by decide +kernel)) (goodIn_sub (fun _ h => List.mem_cons_of_mem _ (List.mem_append_right _ h)) (by decide +kernel))
set_option maxRecDepth 20000 in
theorem gX5_timeOf_X5_checkIndex : GoodIn wsX5_timeOf (va_wsS RX5 49 yX5_checkIndex wsX5_checkIndex) := goodIn_app (goodIn_of _ (by decide +kernel)) ggX5_timeOf_X5_checkIndex
set_option maxRecDepth 20000 in
theorem ggX5_timeOf_X2_timeAt : GoodIn wsX5_timeOf wsX2_timeAt := goodIn_r _ [12, 13, 14, 4, 15, 22, 23, 24, 25, 26, 27, 28] (by decide +kernel) (by decide +kernel)
set_option maxRecDepth 20000 in
theorem gX5_timeOf_X2_timeAt : GoodIn wsX5_timeOf (wsV RX5 132 RX2 yX2_timeAt wsX2_timeAt) := goodIn_app (goodIn_of _ (by decide +kernel)) ggX5_timeOf_X2_timeAt
theorem dX5_timeOf_0 : decode cX5_timeOf 0 = .ok (.iload_n 1, 1) := by decide +kernel
theorem dX5_timeOf_1 : decode cX5_timeOf 1 = .ok (.aload_n 0, 1) := by decide +kernel
theorem dX5_timeOf_2 : decode cX5_timeOf 2 = .ok (.getfield 19, 3) := by decide +kernel
theorem dX5_timeOf_5 : decode cX5_timeOf 5 = .ok (.getfield 57, 3) := by decide +kernel
theorem dX5_timeOf_8 : decode cX5_timeOf 8 = .ok (.invokestatic 49, 3) := by decide +kernel
theorem dX5_timeOf_11 : decode cX5_timeOf 11 = .ok (.aload_n 0, 1) := by decide +kernel
theorem dX5_timeOf_12 : decode cX5_timeOf 12 = .ok (.getfield 19, 3) := by decide +kernel
theorem dX5_timeOf_15 : decode cX5_timeOf 15 = .ok (.iload_n 1, 1) := by decide +kernel
theorem dX5_timeOf_16 : decode cX5_timeOf 16 = .ok (.invokevirtual 132, 3) := by decide +kernel
theorem dX5_timeOf_19 : decode cX5_timeOf 19 = .ok (.ireturn, 1) := by decide +kernel
set_option maxRecDepth 20000 in
theorem ggX5_entries_X5_treeOf : GoodIn wsX5_entries wsX5_treeOf := goodIn_ca (goodIn_r _ [5, 6, 7, 8, 9, 4, 10, 11, 12, 24, 25, 26, 27, 28, 29] (by decide +kernel) (by decide +kernel)) (goodIn_sub (fun _ h => List.mem_cons_of_mem _ (List.mem_append_right _ h)) (by decide +kernel))
set_option maxRecDepth 20000 in
theorem gX5_entries_X5_treeOf : GoodIn wsX5_entries (wsV RX5 71 RX5 yX5_treeOf wsX5_treeOf) := goodIn_app (goodIn_of _ (by decide +kernel)) ggX5_entries_X5_treeOf
theorem dX5_entries_0 : decode cX5_entries 0 = .ok (.aload_n 0, 1) := by decide +kernel
theorem dX5_entries_1 : decode cX5_entries 1 = .ok (.iload_n 1, 1) := by decide +kernel
theorem dX5_entries_2 : decode cX5_entries 2 = .ok (.invokevirtual 71, 3) := by decide +kernel
theorem dX5_entries_5 : decode cX5_entries 5 = .ok (.getfield 126, 3) := by decide +kernel
theorem dX5_entries_8 : decode cX5_entries 8 = .ok (.ireturn, 1) := by decide +kernel
set_option maxRecDepth 20000 in
theorem ggX5_isThere_X5_treeOf : GoodIn wsX5_isThere wsX5_treeOf := goodIn_ca (goodIn_r _ [5, 6, 7, 8, 9, 4, 10, 11, 12, 19, 20, 21, 22, 23, 24] (by decide +kernel) (by decide +kernel)) (goodIn_sub (fun _ h => List.mem_cons_of_mem _ (List.mem_append_right _ h)) (by decide +kernel))
set_option maxRecDepth 20000 in
theorem gX5_isThere_X5_treeOf : GoodIn wsX5_isThere (wsV RX5 71 RX5 yX5_treeOf wsX5_treeOf) := goodIn_app (goodIn_of _ (by decide +kernel)) ggX5_isThere_X5_treeOf
set_option maxRecDepth 20000 in
theorem ggX5_isThere_X4_has : GoodIn wsX5_isThere wsX4_has := goodIn_r _ [17, 18, 25, 26, 27, 28, 29, 30, 31, 32, 33, 34, 35] (by decide +kernel) (by decide +kernel)
set_option maxRecDepth 20000 in
theorem gX5_isThere_X4_has : GoodIn wsX5_isThere (wsV RX5 135 RX4 yX4_has wsX4_has) := goodIn_app (goodIn_of _ (by decide +kernel)) ggX5_isThere_X4_has
theorem dX5_isThere_0 : decode cX5_isThere 0 = .ok (.aload_n 0, 1) := by decide +kernel
theorem dX5_isThere_1 : decode cX5_isThere 1 = .ok (.iload_n 1, 1) := by decide +kernel
theorem dX5_isThere_2 : decode cX5_isThere 2 = .ok (.invokevirtual 71, 3) := by decide +kernel
theorem dX5_isThere_5 : decode cX5_isThere 5 = .ok (.iload_n 2, 1) := by decide +kernel
theorem dX5_isThere_6 : decode cX5_isThere 6 = .ok (.invokevirtual 135, 3) := by decide +kernel
theorem dX5_isThere_9 : decode cX5_isThere 9 = .ok (.ireturn, 1) := by decide +kernel
set_option maxRecDepth 20000 in
theorem ggX5_parentOf_X5_treeOf : GoodIn wsX5_parentOf wsX5_treeOf := goodIn_ca (goodIn_r _ [5, 6, 7, 8, 9, 4, 10, 11, 12, 29, 30, 31, 32, 33, 34] (by decide +kernel) (by decide +kernel)) (goodIn_sub (fun _ h => List.mem_cons_of_mem _ (List.mem_append_right _ h)) (by decide +kernel))
set_option maxRecDepth 20000 in
theorem gX5_parentOf_X5_treeOf : GoodIn wsX5_parentOf (wsV RX5 71 RX5 yX5_treeOf wsX5_treeOf) := goodIn_app (goodIn_of _ (by decide +kernel)) ggX5_parentOf_X5_treeOf
set_option maxRecDepth 20000 in
theorem ggX5_parentOf_X5_checkEntry : GoodIn wsX5_parentOf wsX5_checkEntry := goodIn_ca (goodIn_r _ [15, 11, 12, 16, 17, 18, 19, 20, 21, 35, 36, 37, 38, 39, 40, 41, 42, 43, 44, 45] (by decide +kernel) (by decide +kernel)) (goodIn_sub (fun _ h => List.mem_cons_of_mem _ (List.mem_append_right _ h)) (by decide +kernel))
set_option maxRecDepth 20000 in
theorem gX5_parentOf_X5_checkEntry : GoodIn wsX5_parentOf (va_wsS RX5 75 yX5_checkEntry wsX5_checkEntry) := goodIn_app (goodIn_of _ (by decide +kernel)) ggX5_parentOf_X5_checkEntry
set_option maxRecDepth 20000 in
theorem ggX5_parentOf_X4_parentAt : GoodIn wsX5_parentOf wsX4_parentAt := goodIn_r _ [25, 26, 27, 4, 28, 35, 36, 37, 38, 39, 40, 41, 42, 43, 44, 45] (by decide +kernel) (by decide +kernel)
set_option maxRecDepth 20000 in
theorem gX5_parentOf_X4_parentAt : GoodIn wsX5_parentOf (wsV RX5 116 RX4 yX4_parentAt wsX4_parentAt) := goodIn_app (goodIn_of _ (by decide +kernel)) ggX5_parentOf_X4_parentAt
theorem dX5_parentOf_0 : decode cX5_parentOf 0 = .ok (.aload_n 0, 1) := by decide +kernel
theorem dX5_parentOf_1 : decode cX5_parentOf 1 = .ok (.iload_n 1, 1) := by decide +kernel
theorem dX5_parentOf_2 : decode cX5_parentOf 2 = .ok (.invokevirtual 71, 3) := by decide +kernel
theorem dX5_parentOf_5 : decode cX5_parentOf 5 = .ok (.astore_n 3, 1) := by decide +kernel
theorem dX5_parentOf_6 : decode cX5_parentOf 6 = .ok (.aload_n 3, 1) := by decide +kernel
theorem dX5_parentOf_7 : decode cX5_parentOf 7 = .ok (.iload_n 2, 1) := by decide +kernel
theorem dX5_parentOf_8 : decode cX5_parentOf 8 = .ok (.invokestatic 75, 3) := by decide +kernel
theorem dX5_parentOf_11 : decode cX5_parentOf 11 = .ok (.aload_n 3, 1) := by decide +kernel
theorem dX5_parentOf_12 : decode cX5_parentOf 12 = .ok (.iload_n 2, 1) := by decide +kernel
theorem dX5_parentOf_13 : decode cX5_parentOf 13 = .ok (.invokevirtual 116, 3) := by decide +kernel
theorem dX5_parentOf_16 : decode cX5_parentOf 16 = .ok (.ireturn, 1) := by decide +kernel
set_option maxRecDepth 20000 in
theorem ggX5_labelOf_X5_treeOf : GoodIn wsX5_labelOf wsX5_treeOf := goodIn_ca (goodIn_r _ [5, 6, 7, 8, 9, 4, 10, 11, 12, 29, 30, 31, 32, 33, 34] (by decide +kernel) (by decide +kernel)) (goodIn_sub (fun _ h => List.mem_cons_of_mem _ (List.mem_append_right _ h)) (by decide +kernel))
set_option maxRecDepth 20000 in
theorem gX5_labelOf_X5_treeOf : GoodIn wsX5_labelOf (wsV RX5 71 RX5 yX5_treeOf wsX5_treeOf) := goodIn_app (goodIn_of _ (by decide +kernel)) ggX5_labelOf_X5_treeOf
set_option maxRecDepth 20000 in
theorem ggX5_labelOf_X5_checkEntry : GoodIn wsX5_labelOf wsX5_checkEntry := goodIn_ca (goodIn_r _ [15, 11, 12, 16, 17, 18, 19, 20, 21, 35, 36, 37, 38, 39, 40, 41, 42, 43, 44, 45] (by decide +kernel) (by decide +kernel)) (goodIn_sub (fun _ h => List.mem_cons_of_mem _ (List.mem_append_right _ h)) (by decide +kernel))
set_option maxRecDepth 20000 in
theorem gX5_labelOf_X5_checkEntry : GoodIn wsX5_labelOf (va_wsS RX5 75 yX5_checkEntry wsX5_checkEntry) := goodIn_app (goodIn_of _ (by decide +kernel)) ggX5_labelOf_X5_checkEntry
set_option maxRecDepth 20000 in
theorem ggX5_labelOf_X4_labelAt : GoodIn wsX5_labelOf wsX4_labelAt := goodIn_r _ [25, 26, 27, 4, 28, 35, 36, 37, 38, 39, 40, 41, 42, 43, 44, 45] (by decide +kernel) (by decide +kernel)
set_option maxRecDepth 20000 in
theorem gX5_labelOf_X4_labelAt : GoodIn wsX5_labelOf (wsV RX5 138 RX4 yX4_labelAt wsX4_labelAt) := goodIn_app (goodIn_of _ (by decide +kernel)) ggX5_labelOf_X4_labelAt
theorem dX5_labelOf_0 : decode cX5_labelOf 0 = .ok (.aload_n 0, 1) := by decide +kernel
theorem dX5_labelOf_1 : decode cX5_labelOf 1 = .ok (.iload_n 1, 1) := by decide +kernel
theorem dX5_labelOf_2 : decode cX5_labelOf 2 = .ok (.invokevirtual 71, 3) := by decide +kernel
theorem dX5_labelOf_5 : decode cX5_labelOf 5 = .ok (.astore_n 3, 1) := by decide +kernel
theorem dX5_labelOf_6 : decode cX5_labelOf 6 = .ok (.aload_n 3, 1) := by decide +kernel
theorem dX5_labelOf_7 : decode cX5_labelOf 7 = .ok (.iload_n 2, 1) := by decide +kernel
theorem dX5_labelOf_8 : decode cX5_labelOf 8 = .ok (.invokestatic 75, 3) := by decide +kernel
theorem dX5_labelOf_11 : decode cX5_labelOf 11 = .ok (.aload_n 3, 1) := by decide +kernel
theorem dX5_labelOf_12 : decode cX5_labelOf 12 = .ok (.iload_n 2, 1) := by decide +kernel
theorem dX5_labelOf_13 : decode cX5_labelOf 13 = .ok (.invokevirtual 138, 3) := by decide +kernel
theorem dX5_labelOf_16 : decode cX5_labelOf 16 = .ok (.ireturn, 1) := by decide +kernel
set_option maxRecDepth 20000 in
theorem ggX5_value_X5_treeOf : GoodIn wsX5_value wsX5_treeOf := goodIn_ca (goodIn_r _ [5, 6, 7, 8, 9, 4, 10, 11, 12, 29, 30, 31, 32, 33, 34] (by decide +kernel) (by decide +kernel)) (goodIn_sub (fun _ h => List.mem_cons_of_mem _ (List.mem_append_right _ h)) (by decide +kernel))
set_option maxRecDepth 20000 in
theorem gX5_value_X5_treeOf : GoodIn wsX5_value (wsV RX5 71 RX5 yX5_treeOf wsX5_treeOf) := goodIn_app (goodIn_of _ (by decide +kernel)) ggX5_value_X5_treeOf
set_option maxRecDepth 20000 in
theorem ggX5_value_X5_checkEntry : GoodIn wsX5_value wsX5_checkEntry := goodIn_ca (goodIn_r _ [15, 11, 12, 16, 17, 18, 19, 20, 21, 35, 36, 37, 38, 39, 40, 41, 42, 43, 44, 45] (by decide +kernel) (by decide +kernel)) (goodIn_sub (fun _ h => List.mem_cons_of_mem _ (List.mem_append_right _ h)) (by decide +kernel))
set_option maxRecDepth 20000 in
theorem gX5_value_X5_checkEntry : GoodIn wsX5_value (va_wsS RX5 75 yX5_checkEntry wsX5_checkEntry) := goodIn_app (goodIn_of _ (by decide +kernel)) ggX5_value_X5_checkEntry
set_option maxRecDepth 20000 in
theorem ggX5_value_X5_checkIndex : GoodIn wsX5_value wsX5_checkIndex := goodIn_ca (goodIn_r _ [10, 11, 12] (by decide +kernel) (by decide +kernel)) (goodIn_sub (fun _ h => List.mem_cons_of_mem _ (List.mem_append_right _ h)) (by decide +kernel))
set_option maxRecDepth 20000 in
theorem gX5_value_X5_checkIndex : GoodIn wsX5_value (va_wsS RX5 49 yX5_checkIndex wsX5_checkIndex) := goodIn_app (goodIn_of _ (by decide +kernel)) ggX5_value_X5_checkIndex
set_option maxRecDepth 20000 in
theorem ggX5_value_X4_valueAt : GoodIn wsX5_value wsX4_valueAt := goodIn_r _ [25, 26, 27, 4, 28, 35, 36, 37, 38, 39, 40, 41, 42, 43, 44, 45] (by decide +kernel) (by decide +kernel)
set_option maxRecDepth 20000 in
theorem gX5_value_X4_valueAt : GoodIn wsX5_value (wsV RX5 104 RX4 yX4_valueAt wsX4_valueAt) := goodIn_app (goodIn_of _ (by decide +kernel)) ggX5_value_X4_valueAt
theorem dX5_value_0 : decode cX5_value 0 = .ok (.aload_n 0, 1) := by decide +kernel
theorem dX5_value_1 : decode cX5_value 1 = .ok (.iload_n 1, 1) := by decide +kernel
theorem dX5_value_2 : decode cX5_value 2 = .ok (.invokevirtual 71, 3) := by decide +kernel
theorem dX5_value_5 : decode cX5_value 5 = .ok (.astore 4, 2) := by decide +kernel
theorem dX5_value_7 : decode cX5_value 7 = .ok (.aload 4, 2) := by decide +kernel
theorem dX5_value_9 : decode cX5_value 9 = .ok (.iload_n 2, 1) := by decide +kernel
theorem dX5_value_10 : decode cX5_value 10 = .ok (.invokestatic 75, 3) := by decide +kernel
theorem dX5_value_13 : decode cX5_value 13 = .ok (.iload_n 3, 1) := by decide +kernel
theorem dX5_value_14 : decode cX5_value 14 = .ok (.iconst 4, 1) := by decide +kernel
theorem dX5_value_15 : decode cX5_value 15 = .ok (.invokestatic 49, 3) := by decide +kernel
theorem dX5_value_18 : decode cX5_value 18 = .ok (.aload 4, 2) := by decide +kernel
theorem dX5_value_20 : decode cX5_value 20 = .ok (.iload_n 2, 1) := by decide +kernel
theorem dX5_value_21 : decode cX5_value 21 = .ok (.iload_n 3, 1) := by decide +kernel
theorem dX5_value_22 : decode cX5_value 22 = .ok (.invokevirtual 104, 3) := by decide +kernel
theorem dX5_value_25 : decode cX5_value 25 = .ok (.ireturn, 1) := by decide +kernel
set_option maxRecDepth 20000 in
theorem ggX5_isWhole_X5_treeOf : GoodIn wsX5_isWhole wsX5_treeOf := goodIn_ca (goodIn_r _ [5, 6, 7, 8, 9, 4, 10, 11, 12, 44, 45, 46, 47, 48, 49] (by decide +kernel) (by decide +kernel)) (goodIn_sub (fun _ h => List.mem_cons_of_mem _ (List.mem_append_right _ h)) (by decide +kernel))
set_option maxRecDepth 20000 in
theorem gX5_isWhole_X5_treeOf : GoodIn wsX5_isWhole (wsV RX5 71 RX5 yX5_treeOf wsX5_treeOf) := goodIn_app (goodIn_of _ (by decide +kernel)) ggX5_isWhole_X5_treeOf
set_option maxRecDepth 20000 in
theorem ggX5_isWhole_X5_checkEntry : GoodIn wsX5_isWhole wsX5_checkEntry := goodIn_ca (goodIn_r _ [15, 11, 12, 16, 17, 18, 19, 20, 21, 50, 51, 52, 53, 54, 55, 56, 57, 58, 59, 60] (by decide +kernel) (by decide +kernel)) (goodIn_sub (fun _ h => List.mem_cons_of_mem _ (List.mem_append_right _ h)) (by decide +kernel))
set_option maxRecDepth 20000 in
theorem gX5_isWhole_X5_checkEntry : GoodIn wsX5_isWhole (va_wsS RX5 75 yX5_checkEntry wsX5_checkEntry) := goodIn_app (goodIn_of _ (by decide +kernel)) ggX5_isWhole_X5_checkEntry
set_option maxRecDepth 20000 in
theorem ggX5_isWhole_X4_hasAllNeeded : GoodIn wsX5_isWhole wsX4_hasAllNeeded := goodIn_r _ [25, 26, 27, 28, 4, 29, 30, 31, 32, 33, 34, 35, 36, 37, 38, 39, 40, 41, 19, 42, 43, 50, 51, 52, 53, 54, 55, 56, 57, 58, 59, 60, 61, 62] (by decide +kernel) (by decide +kernel)
set_option maxRecDepth 20000 in
theorem gX5_isWhole_X4_hasAllNeeded : GoodIn wsX5_isWhole (wsV RX5 141 RX4 yX4_hasAllNeeded wsX4_hasAllNeeded) := goodIn_app (goodIn_of _ (by decide +kernel)) ggX5_isWhole_X4_hasAllNeeded
theorem dX5_isWhole_0 : decode cX5_isWhole 0 = .ok (.aload_n 0, 1) := by decide +kernel
theorem dX5_isWhole_1 : decode cX5_isWhole 1 = .ok (.iload_n 1, 1) := by decide +kernel
theorem dX5_isWhole_2 : decode cX5_isWhole 2 = .ok (.invokevirtual 71, 3) := by decide +kernel
theorem dX5_isWhole_5 : decode cX5_isWhole 5 = .ok (.astore_n 3, 1) := by decide +kernel
theorem dX5_isWhole_6 : decode cX5_isWhole 6 = .ok (.aload_n 3, 1) := by decide +kernel
theorem dX5_isWhole_7 : decode cX5_isWhole 7 = .ok (.iload_n 2, 1) := by decide +kernel
theorem dX5_isWhole_8 : decode cX5_isWhole 8 = .ok (.invokestatic 75, 3) := by decide +kernel
theorem dX5_isWhole_11 : decode cX5_isWhole 11 = .ok (.aload_n 3, 1) := by decide +kernel
theorem dX5_isWhole_12 : decode cX5_isWhole 12 = .ok (.iload_n 2, 1) := by decide +kernel
theorem dX5_isWhole_13 : decode cX5_isWhole 13 = .ok (.invokevirtual 141, 3) := by decide +kernel
theorem dX5_isWhole_16 : decode cX5_isWhole 16 = .ok (.ireturn, 1) := by decide +kernel
set_option maxRecDepth 20000 in
theorem ggX5_find_X5_treeOf : GoodIn wsX5_find wsX5_treeOf := goodIn_ca (goodIn_r _ [5, 6, 7, 8, 9, 4, 10, 11, 12, 36, 37, 38, 39, 40, 41] (by decide +kernel) (by decide +kernel)) (goodIn_sub (fun _ h => List.mem_cons_of_mem _ (List.mem_append_left _ (List.mem_append_right _ h))) (by decide +kernel))
set_option maxRecDepth 20000 in
theorem gX5_find_X5_treeOf : GoodIn wsX5_find (wsV RX5 71 RX5 yX5_treeOf wsX5_treeOf) := goodIn_app (goodIn_of _ (by decide +kernel)) ggX5_find_X5_treeOf
set_option maxRecDepth 20000 in
theorem ggX5_find_X5_checkEntry : GoodIn wsX5_find wsX5_checkEntry := goodIn_ca (goodIn_r _ [15, 11, 12, 16, 17, 18, 19, 20, 21, 42, 43, 44, 45, 46, 47, 48, 49, 50, 51, 52] (by decide +kernel) (by decide +kernel)) (goodIn_sub (fun _ h => List.mem_cons_of_mem _ (List.mem_append_left _ (List.mem_append_right _ h))) (by decide +kernel))
set_option maxRecDepth 20000 in
theorem gX5_find_X5_checkEntry : GoodIn wsX5_find (va_wsS RX5 75 yX5_checkEntry wsX5_checkEntry) := goodIn_app (goodIn_of _ (by decide +kernel)) ggX5_find_X5_checkEntry
set_option maxRecDepth 20000 in
theorem ggX5_find_X5_checkArgument : GoodIn wsX5_find wsX5_checkArgument := goodIn_ca (goodIn_r _ [24, 25, 26] (by decide +kernel) (by decide +kernel)) (goodIn_sub (fun _ h => List.mem_cons_of_mem _ (List.mem_append_right _ h)) (by decide +kernel))
set_option maxRecDepth 20000 in
theorem gX5_find_X5_checkArgument : GoodIn wsX5_find (va_wsS RX5 53 yX5_checkArgument wsX5_checkArgument) := goodIn_app (goodIn_of _ (by decide +kernel)) ggX5_find_X5_checkArgument
set_option maxRecDepth 20000 in
theorem ggX5_find_X4_childWithLabelLike : GoodIn wsX5_find wsX4_childWithLabelLike := goodIn_r _ [30, 31, 32, 33, 34, 19, 35, 42, 43, 44, 45, 46, 47, 48, 49, 50, 51, 52] (by decide +kernel) (by decide +kernel)
set_option maxRecDepth 20000 in
theorem gX5_find_X4_childWithLabelLike : GoodIn wsX5_find (wsV RX5 144 RX4 yX4_childWithLabelLike wsX4_childWithLabelLike) := goodIn_app (goodIn_of _ (by decide +kernel)) ggX5_find_X4_childWithLabelLike
theorem dX5_find_0 : decode cX5_find 0 = .ok (.aload_n 0, 1) := by decide +kernel
theorem dX5_find_1 : decode cX5_find 1 = .ok (.iload_n 1, 1) := by decide +kernel
theorem dX5_find_2 : decode cX5_find 2 = .ok (.invokevirtual 71, 3) := by decide +kernel
theorem dX5_find_5 : decode cX5_find 5 = .ok (.astore 4, 2) := by decide +kernel
theorem dX5_find_7 : decode cX5_find 7 = .ok (.aload 4, 2) := by decide +kernel
theorem dX5_find_9 : decode cX5_find 9 = .ok (.iload_n 2, 1) := by decide +kernel
theorem dX5_find_10 : decode cX5_find 10 = .ok (.invokestatic 75, 3) := by decide +kernel
theorem dX5_find_13 : decode cX5_find 13 = .ok (.iload_n 3, 1) := by decide +kernel
theorem dX5_find_14 : decode cX5_find 14 = .ok (.iconst 0, 1) := by decide +kernel
theorem dX5_find_15 : decode cX5_find 15 = .ok (.bipush 99, 2) := by decide +kernel
theorem dX5_find_17 : decode cX5_find 17 = .ok (.invokestatic 53, 3) := by decide +kernel
theorem dX5_find_20 : decode cX5_find 20 = .ok (.aload 4, 2) := by decide +kernel
theorem dX5_find_22 : decode cX5_find 22 = .ok (.iload_n 2, 1) := by decide +kernel
theorem dX5_find_23 : decode cX5_find 23 = .ok (.iload_n 3, 1) := by decide +kernel
theorem dX5_find_24 : decode cX5_find 24 = .ok (.iconst (-1), 1) := by decide +kernel
theorem dX5_find_25 : decode cX5_find 25 = .ok (.invokevirtual 144, 3) := by decide +kernel
theorem dX5_find_28 : decode cX5_find 28 = .ok (.ireturn, 1) := by decide +kernel
set_option maxRecDepth 20000 in
theorem ggX5_areAlike_X4_isSameAs : GoodIn wsX5_areAlike wsX4_isSameAs := goodIn_r _ [7, 8, 9, 10, 11, 6, 12, 13, 14, 15, 16, 17, 18, 19, 20, 21, 22, 23, 24, 25, 26, 27, 28, 29, 30, 31, 38, 39, 40, 41, 42, 43, 44, 45, 46, 47, 48] (by decide +kernel) (by decide +kernel)
set_option maxRecDepth 20000 in
theorem gX5_areAlike_X4_isSameAs : GoodIn wsX5_areAlike (wsV RX5 148 RX4 yX4_isSameAs wsX4_isSameAs) := goodIn_app (goodIn_of _ (by decide +kernel)) ggX5_areAlike_X4_isSameAs
theorem dX5_areAlike_0 : decode cX5_areAlike 0 = .ok (.aload_n 0, 1) := by decide +kernel
theorem dX5_areAlike_1 : decode cX5_areAlike 1 = .ok (.getfield 28, 3) := by decide +kernel
theorem dX5_areAlike_4 : decode cX5_areAlike 4 = .ok (.aload_n 0, 1) := by decide +kernel
theorem dX5_areAlike_5 : decode cX5_areAlike 5 = .ok (.getfield 32, 3) := by decide +kernel
theorem dX5_areAlike_8 : decode cX5_areAlike 8 = .ok (.invokevirtual 148, 3) := by decide +kernel
theorem dX5_areAlike_11 : decode cX5_areAlike 11 = .ok (.ireturn, 1) := by decide +kernel
set_option maxRecDepth 20000 in
theorem ggX5_setRight_X5_checkIndex : GoodIn wsX5_setRight wsX5_checkIndex := goodIn_ca (goodIn_r _ [5, 6, 7] (by decide +kernel) (by decide +kernel)) (goodIn_sub (fun _ h => List.mem_cons_of_mem _ (List.mem_append_left _ (List.mem_append_right _ h))) (by decide +kernel))
set_option maxRecDepth 20000 in
theorem gX5_setRight_X5_checkIndex : GoodIn wsX5_setRight (va_wsS RX5 49 yX5_checkIndex wsX5_checkIndex) := goodIn_app (goodIn_of _ (by decide +kernel)) ggX5_setRight_X5_checkIndex
set_option maxRecDepth 20000 in
theorem ggX5_setRight_X5_checkArgument : GoodIn wsX5_setRight wsX5_checkArgument := goodIn_ca (goodIn_r _ [10, 11, 12] (by decide +kernel) (by decide +kernel)) (goodIn_sub (fun _ h => List.mem_cons_of_mem _ (List.mem_append_right _ h)) (by decide +kernel))
set_option maxRecDepth 20000 in
theorem gX5_setRight_X5_checkArgument : GoodIn wsX5_setRight (va_wsS RX5 53 yX5_checkArgument wsX5_checkArgument) := goodIn_app (goodIn_of _ (by decide +kernel)) ggX5_setRight_X5_checkArgument
set_option maxRecDepth 20000 in
theorem ggX5_setRight_X3_putRight : GoodIn wsX5_setRight wsX3_putRight := goodIn_r _ [17, 18, 19, 4, 20, 27, 28] (by decide +kernel) (by decide +kernel)
set_option maxRecDepth 20000 in
theorem gX5_setRight_X3_putRight : GoodIn wsX5_setRight (wsV RX5 152 RX3 yX3_putRight wsX3_putRight) := goodIn_app (goodIn_of _ (by decide +kernel)) ggX5_setRight_X3_putRight
theorem dX5_setRight_0 : decode cX5_setRight 0 = .ok (.iload_n 1, 1) := by decide +kernel
theorem dX5_setRight_1 : decode cX5_setRight 1 = .ok (.iconst 3, 1) := by decide +kernel
theorem dX5_setRight_2 : decode cX5_setRight 2 = .ok (.invokestatic 49, 3) := by decide +kernel
theorem dX5_setRight_5 : decode cX5_setRight 5 = .ok (.iload_n 2, 1) := by decide +kernel
theorem dX5_setRight_6 : decode cX5_setRight 6 = .ok (.bipush 42, 2) := by decide +kernel
theorem dX5_setRight_8 : decode cX5_setRight 8 = .ok (.invokestatic 49, 3) := by decide +kernel
theorem dX5_setRight_11 : decode cX5_setRight 11 = .ok (.iload_n 3, 1) := by decide +kernel
theorem dX5_setRight_12 : decode cX5_setRight 12 = .ok (.iconst (-1), 1) := by decide +kernel
theorem dX5_setRight_13 : decode cX5_setRight 13 = .ok (.iconst 1, 1) := by decide +kernel
theorem dX5_setRight_14 : decode cX5_setRight 14 = .ok (.invokestatic 53, 3) := by decide +kernel
theorem dX5_setRight_17 : decode cX5_setRight 17 = .ok (.aload_n 0, 1) := by decide +kernel
theorem dX5_setRight_18 : decode cX5_setRight 18 = .ok (.getfield 38, 3) := by decide +kernel
theorem dX5_setRight_21 : decode cX5_setRight 21 = .ok (.iload_n 1, 1) := by decide +kernel
theorem dX5_setRight_22 : decode cX5_setRight 22 = .ok (.iload_n 2, 1) := by decide +kernel
theorem dX5_setRight_23 : decode cX5_setRight 23 = .ok (.iload_n 3, 1) := by decide +kernel
theorem dX5_setRight_24 : decode cX5_setRight 24 = .ok (.invokevirtual 152, 3) := by decide +kernel
theorem dX5_setRight_27 : decode cX5_setRight 27 = .ok (.return_, 1) := by decide +kernel
set_option maxRecDepth 20000 in
theorem ggX5_refer_X5_checkIndex : GoodIn wsX5_refer wsX5_checkIndex := goodIn_ca (goodIn_r _ [5, 6, 7] (by decide +kernel) (by decide +kernel)) (goodIn_sub (fun _ h => List.mem_cons_of_mem _ (List.mem_append_right _ h)) (by decide +kernel))
set_option maxRecDepth 20000 in
theorem gX5_refer_X5_checkIndex : GoodIn wsX5_refer (va_wsS RX5 49 yX5_checkIndex wsX5_checkIndex) := goodIn_app (goodIn_of _ (by decide +kernel)) ggX5_refer_X5_checkIndex
set_option maxRecDepth 20000 in
theorem ggX5_refer_X3_putReferral : GoodIn wsX5_refer wsX3_putReferral := goodIn_r _ [12, 13, 20, 21] (by decide +kernel) (by decide +kernel)
set_option maxRecDepth 20000 in
theorem gX5_refer_X3_putReferral : GoodIn wsX5_refer (wsV RX5 155 RX3 yX3_putReferral wsX3_putReferral) := goodIn_app (goodIn_of _ (by decide +kernel)) ggX5_refer_X3_putReferral
theorem dX5_refer_0 : decode cX5_refer 0 = .ok (.iload_n 1, 1) := by decide +kernel
theorem dX5_refer_1 : decode cX5_refer 1 = .ok (.bipush 42, 2) := by decide +kernel
theorem dX5_refer_3 : decode cX5_refer 3 = .ok (.invokestatic 49, 3) := by decide +kernel
theorem dX5_refer_6 : decode cX5_refer 6 = .ok (.aload_n 0, 1) := by decide +kernel
theorem dX5_refer_7 : decode cX5_refer 7 = .ok (.getfield 38, 3) := by decide +kernel
theorem dX5_refer_10 : decode cX5_refer 10 = .ok (.iload_n 1, 1) := by decide +kernel
theorem dX5_refer_11 : decode cX5_refer 11 = .ok (.iload_n 2, 1) := by decide +kernel
theorem dX5_refer_12 : decode cX5_refer 12 = .ok (.invokevirtual 155, 3) := by decide +kernel
theorem dX5_refer_15 : decode cX5_refer 15 = .ok (.return_, 1) := by decide +kernel
set_option maxRecDepth 20000 in
theorem ggX5_test_X5_checkArgument : GoodIn wsX5_test wsX5_checkArgument := goodIn_ca (goodIn_r _ [5, 6, 7] (by decide +kernel) (by decide +kernel)) (goodIn_sub (fun _ h => List.mem_cons_of_mem _ (List.mem_append_left _ (List.mem_append_right _ h))) (by decide +kernel))
set_option maxRecDepth 20000 in
theorem gX5_test_X5_checkArgument : GoodIn wsX5_test (va_wsS RX5 53 yX5_checkArgument wsX5_checkArgument) := goodIn_app (goodIn_of _ (by decide +kernel)) ggX5_test_X5_checkArgument
set_option maxRecDepth 20000 in
theorem ggX5_test_X5_checkRoomForFilter : GoodIn wsX5_test wsX5_checkRoomForFilter := goodIn_ca (goodIn_r _ [11, 12, 13, 1, 25, 26, 27, 28, 29, 30, 31, 32, 33, 34, 35] (by decide +kernel) (by decide +kernel)) (goodIn_sub (fun _ h => List.mem_cons_of_mem _ (List.mem_append_right _ h)) (by decide +kernel))
set_option maxRecDepth 20000 in
theorem gX5_test_X5_checkRoomForFilter : GoodIn wsX5_test (wsV RX5 159 RX5 yX5_checkRoomForFilter wsX5_checkRoomForFilter) := goodIn_app (goodIn_of _ (by decide +kernel)) ggX5_test_X5_checkRoomForFilter
set_option maxRecDepth 20000 in
theorem ggX5_test_X1_append : GoodIn wsX5_test wsX1_append := goodIn_r _ [18, 19, 20, 21, 22, 23, 4, 24, 31, 32, 33, 34, 35] (by decide +kernel) (by decide +kernel)
set_option maxRecDepth 20000 in
theorem gX5_test_X1_append : GoodIn wsX5_test (wsV RX5 162 RX1 yX1_append wsX1_append) := goodIn_app (goodIn_of _ (by decide +kernel)) ggX5_test_X1_append
theorem dX5_test_0 : decode cX5_test 0 = .ok (.iload_n 1, 1) := by decide +kernel
theorem dX5_test_1 : decode cX5_test 1 = .ok (.iconst 0, 1) := by decide +kernel
theorem dX5_test_2 : decode cX5_test 2 = .ok (.iconst 2, 1) := by decide +kernel
theorem dX5_test_3 : decode cX5_test 3 = .ok (.invokestatic 53, 3) := by decide +kernel
theorem dX5_test_6 : decode cX5_test 6 = .ok (.iload_n 2, 1) := by decide +kernel
theorem dX5_test_7 : decode cX5_test 7 = .ok (.iconst 0, 1) := by decide +kernel
theorem dX5_test_8 : decode cX5_test 8 = .ok (.iconst 3, 1) := by decide +kernel
theorem dX5_test_9 : decode cX5_test 9 = .ok (.invokestatic 53, 3) := by decide +kernel
theorem dX5_test_12 : decode cX5_test 12 = .ok (.iload_n 3, 1) := by decide +kernel
theorem dX5_test_13 : decode cX5_test 13 = .ok (.iconst 0, 1) := by decide +kernel
theorem dX5_test_14 : decode cX5_test 14 = .ok (.bipush 9, 2) := by decide +kernel
theorem dX5_test_16 : decode cX5_test 16 = .ok (.invokestatic 53, 3) := by decide +kernel
theorem dX5_test_19 : decode cX5_test 19 = .ok (.aload_n 0, 1) := by decide +kernel
theorem dX5_test_20 : decode cX5_test 20 = .ok (.invokevirtual 159, 3) := by decide +kernel
theorem dX5_test_23 : decode cX5_test 23 = .ok (.aload_n 0, 1) := by decide +kernel
theorem dX5_test_24 : decode cX5_test 24 = .ok (.getfield 45, 3) := by decide +kernel
theorem dX5_test_27 : decode cX5_test 27 = .ok (.iload_n 1, 1) := by decide +kernel
theorem dX5_test_28 : decode cX5_test 28 = .ok (.iload_n 2, 1) := by decide +kernel
theorem dX5_test_29 : decode cX5_test 29 = .ok (.iload_n 3, 1) := by decide +kernel
theorem dX5_test_30 : decode cX5_test 30 = .ok (.invokevirtual 162, 3) := by decide +kernel
theorem dX5_test_33 : decode cX5_test 33 = .ok (.ireturn, 1) := by decide +kernel
set_option maxRecDepth 20000 in
theorem ggX5_join_X5_checkIndex : GoodIn wsX5_join wsX5_checkIndex := goodIn_ca (goodIn_r _ [5, 6, 7] (by decide +kernel) (by decide +kernel)) (goodIn_sub (fun _ h => List.mem_cons_of_mem _ (List.mem_append_left _ (List.mem_append_left _ (List.mem_append_right _ h)))) (by decide +kernel))
set_option maxRecDepth 20000 in
theorem gX5_join_X5_checkIndex : GoodIn wsX5_join (va_wsS RX5 49 yX5_checkIndex wsX5_checkIndex) := goodIn_app (goodIn_of _ (by decide +kernel)) ggX5_join_X5_checkIndex
set_option maxRecDepth 20000 in
theorem ggX5_join_X5_checkArgument : GoodIn wsX5_join wsX5_checkArgument := goodIn_ca (goodIn_r _ [10, 11, 12] (by decide +kernel) (by decide +kernel)) (goodIn_sub (fun _ h => List.mem_cons_of_mem _ (List.mem_append_left _ (List.mem_append_right _ h))) (by decide +kernel))
set_option maxRecDepth 20000 in
theorem gX5_join_X5_checkArgument : GoodIn wsX5_join (va_wsS RX5 53 yX5_checkArgument wsX5_checkArgument) := goodIn_app (goodIn_of _ (by decide +kernel)) ggX5_join_X5_checkArgument
set_option maxRecDepth 20000 in
theorem ggX5_join_X5_checkRoomForFilter : GoodIn wsX5_join wsX5_checkRoomForFilter := goodIn_ca (goodIn_r _ [16, 17, 18, 1, 30, 31, 32, 33, 34, 35, 36, 37, 38, 39, 40] (by decide +kernel) (by decide +kernel)) (goodIn_sub (fun _ h => List.mem_cons_of_mem _ (List.mem_append_right _ h)) (by decide +kernel))
set_option maxRecDepth 20000 in
theorem gX5_join_X5_checkRoomForFilter : GoodIn wsX5_join (wsV RX5 159 RX5 yX5_checkRoomForFilter wsX5_checkRoomForFilter) := goodIn_app (goodIn_of _ (by decide +kernel)) ggX5_join_X5_checkRoomForFilter
set_option maxRecDepth 20000 in
theorem ggX5_join_X1_append : GoodIn wsX5_join wsX1_append := goodIn_r _ [23, 24, 25, 26, 27, 28, 4, 29, 36, 37, 38, 39, 40] (by decide +kernel) (by decide +kernel)
set_option maxRecDepth 20000 in
theorem gX5_join_X1_append : GoodIn wsX5_join (wsV RX5 162 RX1 yX1_append wsX1_append) := goodIn_app (goodIn_of _ (by decide +kernel)) ggX5_join_X1_append
theorem dX5_join_0 : decode cX5_join 0 = .ok (.iload_n 2, 1) := by decide +kernel
theorem dX5_join_1 : decode cX5_join 1 = .ok (.aload_n 0, 1) := by decide +kernel
theorem dX5_join_2 : decode cX5_join 2 = .ok (.getfield 45, 3) := by decide +kernel
theorem dX5_join_5 : decode cX5_join 5 = .ok (.getfield 164, 3) := by decide +kernel
theorem dX5_join_8 : decode cX5_join 8 = .ok (.invokestatic 49, 3) := by decide +kernel
theorem dX5_join_11 : decode cX5_join 11 = .ok (.iload_n 3, 1) := by decide +kernel
theorem dX5_join_12 : decode cX5_join 12 = .ok (.aload_n 0, 1) := by decide +kernel
theorem dX5_join_13 : decode cX5_join 13 = .ok (.getfield 45, 3) := by decide +kernel
theorem dX5_join_16 : decode cX5_join 16 = .ok (.getfield 164, 3) := by decide +kernel
theorem dX5_join_19 : decode cX5_join 19 = .ok (.invokestatic 49, 3) := by decide +kernel
theorem dX5_join_22 : decode cX5_join 22 = .ok (.iload_n 1, 1) := by decide +kernel
theorem dX5_join_23 : decode cX5_join 23 = .ok (.iconst 0, 1) := by decide +kernel
theorem dX5_join_24 : decode cX5_join 24 = .ok (.iconst 2, 1) := by decide +kernel
theorem dX5_join_25 : decode cX5_join 25 = .ok (.invokestatic 53, 3) := by decide +kernel
theorem dX5_join_28 : decode cX5_join 28 = .ok (.aload_n 0, 1) := by decide +kernel
theorem dX5_join_29 : decode cX5_join 29 = .ok (.invokevirtual 159, 3) := by decide +kernel
theorem dX5_join_32 : decode cX5_join 32 = .ok (.aload_n 0, 1) := by decide +kernel
theorem dX5_join_33 : decode cX5_join 33 = .ok (.getfield 45, 3) := by decide +kernel
theorem dX5_join_36 : decode cX5_join 36 = .ok (.iconst 3, 1) := by decide +kernel
theorem dX5_join_37 : decode cX5_join 37 = .ok (.iload_n 1, 1) := by decide +kernel
theorem dX5_join_38 : decode cX5_join 38 = .ok (.iadd, 1) := by decide +kernel
theorem dX5_join_39 : decode cX5_join 39 = .ok (.iload_n 2, 1) := by decide +kernel
theorem dX5_join_40 : decode cX5_join 40 = .ok (.iload_n 3, 1) := by decide +kernel
theorem dX5_join_41 : decode cX5_join 41 = .ok (.invokevirtual 162, 3) := by decide +kernel
theorem dX5_join_44 : decode cX5_join 44 = .ok (.ireturn, 1) := by decide +kernel
set_option maxRecDepth 20000 in
theorem ggX5_holds_X5_treeOf : GoodIn wsX5_holds wsX5_treeOf := goodIn_ca (goodIn_r _ [6, 7, 8, 9, 10, 5, 11, 12, 13, 66, 67, 68, 69, 70, 71] (by decide +kernel) (by decide +kernel)) (goodIn_sub (fun _ h => List.mem_cons_of_mem _ (List.mem_append_right _ h)) (by decide +kernel))
set_option maxRecDepth 20000 in
theorem gX5_holds_X5_treeOf : GoodIn wsX5_holds (wsV RX5 71 RX5 yX5_treeOf wsX5_treeOf) := goodIn_app (goodIn_of _ (by decide +kernel)) ggX5_holds_X5_treeOf
set_option maxRecDepth 20000 in
theorem ggX5_holds_X5_checkIndex : GoodIn wsX5_holds wsX5_checkIndex := goodIn_ca (goodIn_r _ [11, 12, 13] (by decide +kernel) (by decide +kernel)) (goodIn_sub (fun _ h => List.mem_cons_of_mem _ (List.mem_append_right _ h)) (by decide +kernel))
set_option maxRecDepth 20000 in
theorem gX5_holds_X5_checkIndex : GoodIn wsX5_holds (va_wsS RX5 49 yX5_checkIndex wsX5_checkIndex) := goodIn_app (goodIn_of _ (by decide +kernel)) ggX5_holds_X5_checkIndex
set_option maxRecDepth 20000 in
theorem ggX5_holds_X5_checkEntry : GoodIn wsX5_holds wsX5_checkEntry := goodIn_ca (goodIn_r _ [16, 12, 13, 17, 18, 19, 20, 21, 22, 77, 78, 79, 80, 81, 82, 83, 84, 85, 86, 87] (by decide +kernel) (by decide +kernel)) (goodIn_sub (fun _ h => List.mem_cons_of_mem _ (List.mem_append_right _ h)) (by decide +kernel))
set_option maxRecDepth 20000 in
theorem gX5_holds_X5_checkEntry : GoodIn wsX5_holds (va_wsS RX5 75 yX5_checkEntry wsX5_checkEntry) := goodIn_app (goodIn_of _ (by decide +kernel)) ggX5_holds_X5_checkEntry
set_option maxRecDepth 20000 in
theorem ggX5_holds_X1_truthFor : GoodIn wsX5_holds wsX1_truthFor := goodIn_r _ [27, 28, 29, 30, 31, 32, 33, 26, 34, 35, 36, 37, 20, 38, 39, 40, 41, 5, 42, 43, 44, 45, 46, 47, 48, 49, 50, 51, 52, 53, 54, 55, 56, 57, 58, 59, 60, 61, 62, 63, 64, 65, 72, 73, 74, 75, 76, 77, 78, 79, 80, 81, 82, 83, 84, 85, 86, 87, 88, 89] (by decide +kernel) (by decide +kernel)
set_option maxRecDepth 20000 in
theorem gX5_holds_X1_truthFor : GoodIn wsX5_holds (wsV RX5 165 RX1 yX1_truthFor wsX1_truthFor) := goodIn_app (goodIn_of _ (by decide +kernel)) ggX5_holds_X1_truthFor
theorem dX5_holds_0 : decode cX5_holds 0 = .ok (.aload_n 0, 1) := by decide +kernel
theorem dX5_holds_1 : decode cX5_holds 1 = .ok (.iload_n 1, 1) := by decide +kernel
theorem dX5_holds_2 : decode cX5_holds 2 = .ok (.invokevirtual 71, 3) := by decide +kernel
theorem dX5_holds_5 : decode cX5_holds 5 = .ok (.astore 4, 2) := by decide +kernel
theorem dX5_holds_7 : decode cX5_holds 7 = .ok (.iload_n 2, 1) := by decide +kernel
theorem dX5_holds_8 : decode cX5_holds 8 = .ok (.aload_n 0, 1) := by decide +kernel
theorem dX5_holds_9 : decode cX5_holds 9 = .ok (.getfield 45, 3) := by decide +kernel
theorem dX5_holds_12 : decode cX5_holds 12 = .ok (.getfield 164, 3) := by decide +kernel
theorem dX5_holds_15 : decode cX5_holds 15 = .ok (.invokestatic 49, 3) := by decide +kernel
theorem dX5_holds_18 : decode cX5_holds 18 = .ok (.aload 4, 2) := by decide +kernel
theorem dX5_holds_20 : decode cX5_holds 20 = .ok (.iload_n 3, 1) := by decide +kernel
theorem dX5_holds_21 : decode cX5_holds 21 = .ok (.invokestatic 75, 3) := by decide +kernel
theorem dX5_holds_24 : decode cX5_holds 24 = .ok (.aload_n 0, 1) := by decide +kernel
theorem dX5_holds_25 : decode cX5_holds 25 = .ok (.getfield 45, 3) := by decide +kernel
theorem dX5_holds_28 : decode cX5_holds 28 = .ok (.iload_n 2, 1) := by decide +kernel
theorem dX5_holds_29 : decode cX5_holds 29 = .ok (.aload 4, 2) := by decide +kernel
theorem dX5_holds_31 : decode cX5_holds 31 = .ok (.iload_n 3, 1) := by decide +kernel
theorem dX5_holds_32 : decode cX5_holds 32 = .ok (.invokevirtual 165, 3) := by decide +kernel
theorem dX5_holds_35 : decode cX5_holds 35 = .ok (.ireturn, 1) := by decide +kernel
set_option maxRecDepth 20000 in
theorem ggX5_search_X5_treeOf : GoodIn wsX5_search wsX5_treeOf := goodIn_ca (goodIn_r _ [9, 10, 11, 12, 13, 8, 14, 1, 2, 116, 117, 118, 119, 120, 121] (by decide +kernel) (by decide +kernel)) (goodIn_sub (fun _ h => List.mem_cons_of_mem _ (List.mem_append_left _ (List.mem_append_right _ h))) (by decide +kernel))
set_option maxRecDepth 20000 in
theorem gX5_search_X5_treeOf : GoodIn wsX5_search (wsV RX5 71 RX5 yX5_treeOf wsX5_treeOf) := goodIn_app (goodIn_of _ (by decide +kernel)) ggX5_search_X5_treeOf
set_option maxRecDepth 20000 in
theorem ggX5_search_X5_checkIndex : GoodIn wsX5_search wsX5_checkIndex := goodIn_ca (goodIn_r _ [14, 1, 2] (by decide +kernel) (by decide +kernel)) (goodIn_sub (fun _ h => List.mem_cons_of_mem _ (List.mem_append_left _ (List.mem_append_right _ h))) (by decide +kernel))
set_option maxRecDepth 20000 in
theorem gX5_search_X5_checkIndex : GoodIn wsX5_search (va_wsS RX5 49 yX5_checkIndex wsX5_checkIndex) := goodIn_app (goodIn_of _ (by decide +kernel)) ggX5_search_X5_checkIndex
set_option maxRecDepth 20000 in
theorem ggX5_search_X5_checkEntry : GoodIn wsX5_search wsX5_checkEntry := goodIn_ca (goodIn_r _ [17, 1, 2, 18, 19, 20, 21, 22, 23, 127, 128, 129, 130, 131, 132, 133, 134, 135, 136, 137] (by decide +kernel) (by decide +kernel)) (goodIn_sub (fun _ h => List.mem_cons_of_mem _ (List.mem_append_left _ (List.mem_append_right _ h))) (by decide +kernel))
set_option maxRecDepth 20000 in
theorem gX5_search_X5_checkEntry : GoodIn wsX5_search (va_wsS RX5 75 yX5_checkEntry wsX5_checkEntry) := goodIn_app (goodIn_of _ (by decide +kernel)) ggX5_search_X5_checkEntry
set_option maxRecDepth 20000 in
theorem ggX5_search_X5_checkArgument : GoodIn wsX5_search wsX5_checkArgument := goodIn_ca (goodIn_r _ [26, 27, 28] (by decide +kernel) (by decide +kernel)) (goodIn_sub (fun _ h => List.mem_cons_of_mem _ (List.mem_append_right _ h)) (by decide +kernel))
set_option maxRecDepth 20000 in
theorem gX5_search_X5_checkArgument : GoodIn wsX5_search (va_wsS RX5 53 yX5_checkArgument wsX5_checkArgument) := goodIn_app (goodIn_of _ (by decide +kernel)) ggX5_search_X5_checkArgument
set_option maxRecDepth 20000 in
theorem ggX5_search_X4_childAfter : GoodIn wsX5_search wsX4_childAfter := goodIn_r _ [32, 33, 34, 35, 36, 37, 38, 39, 40, 41, 42, 21, 43, 44, 45, 46, 47, 48, 49, 8, 50, 127, 128, 129, 130, 131, 132, 133, 134, 135, 136, 137, 138, 139] (by decide +kernel) (by decide +kernel)
set_option maxRecDepth 20000 in
theorem gX5_search_X4_childAfter : GoodIn wsX5_search (wsV RX5 174 RX4 yX4_childAfter wsX4_childAfter) := goodIn_app (goodIn_of _ (by decide +kernel)) ggX5_search_X4_childAfter
set_option maxRecDepth 20000 in
theorem ggX5_search_X5_isFound : GoodIn wsX5_search wsX5_isFound := goodIn_r _ [54, 3, 4, 55, 56, 57, 58, 59, 60, 61, 62, 63, 64, 65, 66, 67, 68, 69, 21, 70, 71, 72, 49, 8, 50, 73, 74, 75, 76, 77, 78, 79, 80, 81, 82, 83, 84, 85, 86, 87, 88, 89, 90, 91, 92, 93, 94, 95, 96, 97, 98, 37, 99, 100, 101, 102, 103, 104, 33, 116, 117, 118, 119, 120, 121, 122, 123, 124, 125, 126, 127, 128, 129, 130, 131, 132, 133, 134, 135, 136, 137, 140, 141, 138, 139] (by decide +kernel) (by decide +kernel)
set_option maxRecDepth 20000 in
theorem gX5_search_X5_isFound : GoodIn wsX5_search (wsV RX5 178 RX5 yX5_isFound wsX5_isFound) := goodIn_app (goodIn_of _ (by decide +kernel)) ggX5_search_X5_isFound
set_option maxRecDepth 20000 in
theorem ggX5_search_X5_nextInScope : GoodIn wsX5_search wsX5_nextInScope := goodIn_r _ [108, 4, 109, 41, 42, 21, 43, 44, 45, 46, 47, 48, 49, 8, 50, 29, 30, 31, 32, 33, 34, 35, 36, 37, 38, 39, 40, 110, 111, 112, 113, 114, 115, 102, 103, 104, 116, 117, 118, 119, 120, 121, 127, 128, 129, 130, 131, 132, 133, 134, 135, 136, 137, 138, 139] (by decide +kernel) (by decide +kernel)
set_option maxRecDepth 20000 in
theorem gX5_search_X5_nextInScope : GoodIn wsX5_search (wsV RX5 182 RX5 yX5_nextInScope wsX5_nextInScope) := goodIn_app (goodIn_of _ (by decide +kernel)) ggX5_search_X5_nextInScope
theorem dX5_search_0 : decode cX5_search 0 = .ok (.aload_n 0, 1) := by decide +kernel
theorem dX5_search_1 : decode cX5_search 1 = .ok (.iload_n 1, 1) := by decide +kernel
theorem dX5_search_2 : decode cX5_search 2 = .ok (.invokevirtual 71, 3) := by decide +kernel
theorem dX5_search_5 : decode cX5_search 5 = .ok (.astore 7, 2) := by decide +kernel
theorem dX5_search_7 : decode cX5_search 7 = .ok (.iload_n 2, 1) := by decide +kernel
theorem dX5_search_8 : decode cX5_search 8 = .ok (.iconst 3, 1) := by decide +kernel
theorem dX5_search_9 : decode cX5_search 9 = .ok (.invokestatic 49, 3) := by decide +kernel
theorem dX5_search_12 : decode cX5_search 12 = .ok (.aload 7, 2) := by decide +kernel
theorem dX5_search_14 : decode cX5_search 14 = .ok (.iload_n 3, 1) := by decide +kernel
theorem dX5_search_15 : decode cX5_search 15 = .ok (.invokestatic 75, 3) := by decide +kernel
theorem dX5_search_18 : decode cX5_search 18 = .ok (.iload 5, 2) := by decide +kernel
theorem dX5_search_20 : decode cX5_search 20 = .ok (.aload_n 0, 1) := by decide +kernel
theorem dX5_search_21 : decode cX5_search 21 = .ok (.getfield 45, 3) := by decide +kernel
theorem dX5_search_24 : decode cX5_search 24 = .ok (.getfield 164, 3) := by decide +kernel
theorem dX5_search_27 : decode cX5_search 27 = .ok (.invokestatic 49, 3) := by decide +kernel
theorem dX5_search_30 : decode cX5_search 30 = .ok (.iload 6, 2) := by decide +kernel
theorem dX5_search_32 : decode cX5_search 32 = .ok (.ifCond .ge 13, 3) := by decide +kernel
theorem dX5_search_35 : decode cX5_search 35 = .ok (.new 169, 3) := by decide +kernel
theorem dX5_search_38 : decode cX5_search 38 = .ok (.dup, 1) := by decide +kernel
theorem dX5_search_39 : decode cX5_search 39 = .ok (.ldc 171, 2) := by decide +kernel
theorem dX5_search_41 : decode cX5_search 41 = .ok (.invokespecial 173, 3) := by decide +kernel
theorem dX5_search_44 : decode cX5_search 44 = .ok (.athrow, 1) := by decide +kernel
theorem dX5_search_45 : decode cX5_search 45 = .ok (.iload 4, 2) := by decide +kernel
theorem dX5_search_47 : decode cX5_search 47 = .ok (.iconst 0, 1) := by decide +kernel
theorem dX5_search_48 : decode cX5_search 48 = .ok (.iconst 2, 1) := by decide +kernel
theorem dX5_search_49 : decode cX5_search 49 = .ok (.invokestatic 53, 3) := by decide +kernel
theorem dX5_search_52 : decode cX5_search 52 = .ok (.iconst 0, 1) := by decide +kernel
theorem dX5_search_53 : decode cX5_search 53 = .ok (.istore 8, 2) := by decide +kernel
theorem dX5_search_55 : decode cX5_search 55 = .ok (.iload 4, 2) := by decide +kernel
theorem dX5_search_57 : decode cX5_search 57 = .ok (.iconst 1, 1) := by decide +kernel
theorem dX5_search_58 : decode cX5_search 58 = .ok (.if_icmp .ne 17, 3) := by decide +kernel
theorem dX5_search_61 : decode cX5_search 61 = .ok (.aload 7, 2) := by decide +kernel
theorem dX5_search_63 : decode cX5_search 63 = .ok (.iload_n 3, 1) := by decide +kernel
theorem dX5_search_64 : decode cX5_search 64 = .ok (.iconst (-1), 1) := by decide +kernel
theorem dX5_search_65 : decode cX5_search 65 = .ok (.aload_n 0, 1) := by decide +kernel
theorem dX5_search_66 : decode cX5_search 66 = .ok (.getfield 38, 3) := by decide +kernel
theorem dX5_search_69 : decode cX5_search 69 = .ok (.invokevirtual 174, 3) := by decide +kernel
theorem dX5_search_72 : decode cX5_search 72 = .ok (.goto 4, 3) := by decide +kernel
theorem dX5_search_75 : decode cX5_search 75 = .ok (.iload_n 3, 1) := by decide +kernel
theorem dX5_search_76 : decode cX5_search 76 = .ok (.istore 9, 2) := by decide +kernel
theorem dX5_search_78 : decode cX5_search 78 = .ok (.iconst 0, 1) := by decide +kernel
theorem dX5_search_79 : decode cX5_search 79 = .ok (.istore 10, 2) := by decide +kernel
theorem dX5_search_81 : decode cX5_search 81 = .ok (.iload 10, 2) := by decide +kernel
theorem dX5_search_83 : decode cX5_search 83 = .ok (.bipush 42, 2) := by decide +kernel
theorem dX5_search_85 : decode cX5_search 85 = .ok (.if_icmp .ge 55, 3) := by decide +kernel
theorem dX5_search_88 : decode cX5_search 88 = .ok (.iload 9, 2) := by decide +kernel
theorem dX5_search_90 : decode cX5_search 90 = .ok (.iconst (-1), 1) := by decide +kernel
theorem dX5_search_91 : decode cX5_search 91 = .ok (.if_icmp .eq 49, 3) := by decide +kernel
theorem dX5_search_94 : decode cX5_search 94 = .ok (.aload_n 0, 1) := by decide +kernel
theorem dX5_search_95 : decode cX5_search 95 = .ok (.aload 7, 2) := by decide +kernel
theorem dX5_search_97 : decode cX5_search 97 = .ok (.iload_n 2, 1) := by decide +kernel
theorem dX5_search_98 : decode cX5_search 98 = .ok (.iload 5, 2) := by decide +kernel
theorem dX5_search_100 : decode cX5_search 100 = .ok (.iload 9, 2) := by decide +kernel
theorem dX5_search_102 : decode cX5_search 102 = .ok (.invokevirtual 178, 3) := by decide +kernel
theorem dX5_search_105 : decode cX5_search 105 = .ok (.ifCond .eq 16, 3) := by decide +kernel
theorem dX5_search_108 : decode cX5_search 108 = .ok (.iload 8, 2) := by decide +kernel
theorem dX5_search_110 : decode cX5_search 110 = .ok (.iload 6, 2) := by decide +kernel
theorem dX5_search_112 : decode cX5_search 112 = .ok (.if_icmp .ne 6, 3) := by decide +kernel
theorem dX5_search_115 : decode cX5_search 115 = .ok (.iload 9, 2) := by decide +kernel
theorem dX5_search_117 : decode cX5_search 117 = .ok (.ireturn, 1) := by decide +kernel
theorem dX5_search_118 : decode cX5_search 118 = .ok (.iinc 8 1, 3) := by decide +kernel
theorem dX5_search_121 : decode cX5_search 121 = .ok (.aload_n 0, 1) := by decide +kernel
theorem dX5_search_122 : decode cX5_search 122 = .ok (.aload 7, 2) := by decide +kernel
theorem dX5_search_124 : decode cX5_search 124 = .ok (.iload_n 3, 1) := by decide +kernel
theorem dX5_search_125 : decode cX5_search 125 = .ok (.iload 4, 2) := by decide +kernel
theorem dX5_search_127 : decode cX5_search 127 = .ok (.iload 9, 2) := by decide +kernel
theorem dX5_search_129 : decode cX5_search 129 = .ok (.invokevirtual 182, 3) := by decide +kernel
theorem dX5_search_132 : decode cX5_search 132 = .ok (.istore 9, 2) := by decide +kernel
theorem dX5_search_134 : decode cX5_search 134 = .ok (.iinc 10 1, 3) := by decide +kernel
theorem dX5_search_137 : decode cX5_search 137 = .ok (.goto (-56), 3) := by decide +kernel
theorem dX5_search_140 : decode cX5_search 140 = .ok (.iconst (-1), 1) := by decide +kernel
theorem dX5_search_141 : decode cX5_search 141 = .ok (.ireturn, 1) := by decide +kernel
set_option maxRecDepth 20000 in
theorem ggX5_isFound_X1_truthFor : GoodIn wsX5_isFound wsX1_truthFor := goodIn_r _ [7, 8, 9, 10, 11, 12, 13, 6, 14, 15, 16, 17, 18, 19, 20, 21, 22, 23, 24, 25, 26, 27, 28, 29, 30, 31, 32, 33, 34, 35, 36, 37, 38, 39, 40, 41, 42, 43, 44, 45, 46, 47, 65, 66, 67, 68, 69, 70, 71, 72, 73, 74, 75, 76, 77, 78, 79, 80, 81, 82] (by decide +kernel) (by decide +kernel)
set_option maxRecDepth 20000 in
theorem gX5_isFound_X1_truthFor : GoodIn wsX5_isFound (wsV RX5 165 RX1 yX1_truthFor wsX1_truthFor) := goodIn_app (goodIn_of _ (by decide +kernel)) ggX5_isFound_X1_truthFor
set_option maxRecDepth 20000 in
theorem ggX5_isFound_X3_rightThatCounts : GoodIn wsX5_isFound wsX3_rightThatCounts := goodIn_r _ [52, 53, 22, 23, 24, 54, 55, 56, 18, 57, 58, 83, 84, 70, 71, 72, 73, 74, 75, 76, 77, 78, 79, 80] (by decide +kernel) (by decide +kernel)
set_option maxRecDepth 20000 in
theorem gX5_isFound_X3_rightThatCounts : GoodIn wsX5_isFound (wsV RX5 186 RX3 yX3_rightThatCounts wsX3_rightThatCounts) := goodIn_app (goodIn_of _ (by decide +kernel)) ggX5_isFound_X3_rightThatCounts
theorem dX5_isFound_0 : decode cX5_isFound 0 = .ok (.aload_n 0, 1) := by decide +kernel
theorem dX5_isFound_1 : decode cX5_isFound 1 = .ok (.getfield 45, 3) := by decide +kernel
theorem dX5_isFound_4 : decode cX5_isFound 4 = .ok (.iload_n 3, 1) := by decide +kernel
theorem dX5_isFound_5 : decode cX5_isFound 5 = .ok (.aload_n 1, 1) := by decide +kernel
theorem dX5_isFound_6 : decode cX5_isFound 6 = .ok (.iload 4, 2) := by decide +kernel
theorem dX5_isFound_8 : decode cX5_isFound 8 = .ok (.invokevirtual 165, 3) := by decide +kernel
theorem dX5_isFound_11 : decode cX5_isFound 11 = .ok (.iconst 1, 1) := by decide +kernel
theorem dX5_isFound_12 : decode cX5_isFound 12 = .ok (.if_icmp .ne 21, 3) := by decide +kernel
theorem dX5_isFound_15 : decode cX5_isFound 15 = .ok (.aload_n 0, 1) := by decide +kernel
theorem dX5_isFound_16 : decode cX5_isFound 16 = .ok (.getfield 38, 3) := by decide +kernel
theorem dX5_isFound_19 : decode cX5_isFound 19 = .ok (.iload_n 2, 1) := by decide +kernel
theorem dX5_isFound_20 : decode cX5_isFound 20 = .ok (.aload_n 1, 1) := by decide +kernel
theorem dX5_isFound_21 : decode cX5_isFound 21 = .ok (.iload 4, 2) := by decide +kernel
theorem dX5_isFound_23 : decode cX5_isFound 23 = .ok (.invokevirtual 186, 3) := by decide +kernel
theorem dX5_isFound_26 : decode cX5_isFound 26 = .ok (.ifCond .ne 7, 3) := by decide +kernel
theorem dX5_isFound_29 : decode cX5_isFound 29 = .ok (.iconst 1, 1) := by decide +kernel
theorem dX5_isFound_30 : decode cX5_isFound 30 = .ok (.goto 4, 3) := by decide +kernel
theorem dX5_isFound_33 : decode cX5_isFound 33 = .ok (.iconst 0, 1) := by decide +kernel
theorem dX5_isFound_34 : decode cX5_isFound 34 = .ok (.ireturn, 1) := by decide +kernel
set_option maxRecDepth 20000 in
theorem ggX5_nextInScope_X4_orderUnderParent : GoodIn wsX5_nextInScope wsX4_orderUnderParent := goodIn_r _ [6, 7, 8, 9, 5, 10, 11, 12, 13, 14, 42, 43, 44, 45, 46, 47, 48, 49, 50, 51, 52] (by decide +kernel) (by decide +kernel)
set_option maxRecDepth 20000 in
theorem gX5_nextInScope_X4_orderUnderParent : GoodIn wsX5_nextInScope (wsV RX5 189 RX4 yX4_orderUnderParent wsX4_orderUnderParent) := goodIn_app (goodIn_of _ (by decide +kernel)) ggX5_nextInScope_X4_orderUnderParent
set_option maxRecDepth 20000 in
theorem ggX5_nextInScope_X4_childAfter : GoodIn wsX5_nextInScope wsX4_childAfter := goodIn_r _ [18, 19, 20, 21, 22, 23, 24, 25, 26, 3, 4, 5, 6, 7, 8, 9, 10, 11, 12, 13, 14, 42, 43, 44, 45, 46, 47, 48, 49, 50, 51, 52, 53, 54] (by decide +kernel) (by decide +kernel)
set_option maxRecDepth 20000 in
theorem gX5_nextInScope_X4_childAfter : GoodIn wsX5_nextInScope (wsV RX5 174 RX4 yX4_childAfter wsX4_childAfter) := goodIn_app (goodIn_of _ (by decide +kernel)) ggX5_nextInScope_X4_childAfter
set_option maxRecDepth 20000 in
theorem ggX5_nextInScope_X4_entryAfter : GoodIn wsX5_nextInScope wsX4_entryAfter := goodIn_r _ [30, 31, 16, 17, 5, 18, 19, 20, 21, 22, 23, 24, 25, 26, 3, 4, 6, 7, 8, 9, 10, 11, 12, 13, 14, 32, 33, 34, 35, 42, 43, 44, 45, 46, 47, 48, 49, 50, 51, 52, 53, 54] (by decide +kernel) (by decide +kernel)
set_option maxRecDepth 20000 in
theorem gX5_nextInScope_X4_entryAfter : GoodIn wsX5_nextInScope (wsV RX5 192 RX4 yX4_entryAfter wsX4_entryAfter) := goodIn_app (goodIn_of _ (by decide +kernel)) ggX5_nextInScope_X4_entryAfter
theorem dX5_nextInScope_0 : decode cX5_nextInScope 0 = .ok (.iload_n 3, 1) := by decide +kernel
theorem dX5_nextInScope_1 : decode cX5_nextInScope 1 = .ok (.lookupswitch 55 #[(1, 27), (2, 43)], 27) := by decide +kernel
theorem dX5_nextInScope_28 : decode cX5_nextInScope 28 = .ok (.aload_n 1, 1) := by decide +kernel
theorem dX5_nextInScope_29 : decode cX5_nextInScope 29 = .ok (.iload_n 2, 1) := by decide +kernel
theorem dX5_nextInScope_30 : decode cX5_nextInScope 30 = .ok (.aload_n 1, 1) := by decide +kernel
theorem dX5_nextInScope_31 : decode cX5_nextInScope 31 = .ok (.iload 4, 2) := by decide +kernel
theorem dX5_nextInScope_33 : decode cX5_nextInScope 33 = .ok (.invokevirtual 189, 3) := by decide +kernel
theorem dX5_nextInScope_36 : decode cX5_nextInScope 36 = .ok (.aload_n 0, 1) := by decide +kernel
theorem dX5_nextInScope_37 : decode cX5_nextInScope 37 = .ok (.getfield 38, 3) := by decide +kernel
theorem dX5_nextInScope_40 : decode cX5_nextInScope 40 = .ok (.invokevirtual 174, 3) := by decide +kernel
theorem dX5_nextInScope_43 : decode cX5_nextInScope 43 = .ok (.ireturn, 1) := by decide +kernel
theorem dX5_nextInScope_44 : decode cX5_nextInScope 44 = .ok (.aload_n 1, 1) := by decide +kernel
theorem dX5_nextInScope_45 : decode cX5_nextInScope 45 = .ok (.iload 4, 2) := by decide +kernel
theorem dX5_nextInScope_47 : decode cX5_nextInScope 47 = .ok (.iload_n 2, 1) := by decide +kernel
theorem dX5_nextInScope_48 : decode cX5_nextInScope 48 = .ok (.aload_n 0, 1) := by decide +kernel
theorem dX5_nextInScope_49 : decode cX5_nextInScope 49 = .ok (.getfield 38, 3) := by decide +kernel
theorem dX5_nextInScope_52 : decode cX5_nextInScope 52 = .ok (.invokevirtual 192, 3) := by decide +kernel
theorem dX5_nextInScope_55 : decode cX5_nextInScope 55 = .ok (.ireturn, 1) := by decide +kernel
theorem dX5_nextInScope_56 : decode cX5_nextInScope 56 = .ok (.iconst (-1), 1) := by decide +kernel
theorem dX5_nextInScope_57 : decode cX5_nextInScope 57 = .ok (.ireturn, 1) := by decide +kernel
set_option maxRecDepth 20000 in
theorem ggX5_treeOf_X5_checkIndex : GoodIn wsX5_treeOf wsX5_checkIndex := goodIn_ca (goodIn_r _ [6, 7, 8] (by decide +kernel) (by decide +kernel)) (goodIn_sub (fun _ h => List.mem_cons_of_mem _ (List.mem_append_right _ h)) (by decide +kernel))
set_option maxRecDepth 20000 in
theorem gX5_treeOf_X5_checkIndex : GoodIn wsX5_treeOf (va_wsS RX5 49 yX5_checkIndex wsX5_checkIndex) := goodIn_app (goodIn_of _ (by decide +kernel)) ggX5_treeOf_X5_checkIndex
theorem dX5_treeOf_0 : decode cX5_treeOf 0 = .ok (.iload_n 1, 1) := by decide +kernel
theorem dX5_treeOf_1 : decode cX5_treeOf 1 = .ok (.iconst 2, 1) := by decide +kernel
theorem dX5_treeOf_2 : decode cX5_treeOf 2 = .ok (.invokestatic 49, 3) := by decide +kernel
theorem dX5_treeOf_5 : decode cX5_treeOf 5 = .ok (.iload_n 1, 1) := by decide +kernel
theorem dX5_treeOf_6 : decode cX5_treeOf 6 = .ok (.ifCond .ne 10, 3) := by decide +kernel
theorem dX5_treeOf_9 : decode cX5_treeOf 9 = .ok (.aload_n 0, 1) := by decide +kernel
theorem dX5_treeOf_10 : decode cX5_treeOf 10 = .ok (.getfield 28, 3) := by decide +kernel
theorem dX5_treeOf_13 : decode cX5_treeOf 13 = .ok (.goto 7, 3) := by decide +kernel
theorem dX5_treeOf_16 : decode cX5_treeOf 16 = .ok (.aload_n 0, 1) := by decide +kernel
theorem dX5_treeOf_17 : decode cX5_treeOf 17 = .ok (.getfield 32, 3) := by decide +kernel
theorem dX5_treeOf_20 : decode cX5_treeOf 20 = .ok (.areturn, 1) := by decide +kernel
theorem dX5_checkIndex_0 : decode cX5_checkIndex 0 = .ok (.iload_n 0, 1) := by decide +kernel
theorem dX5_checkIndex_1 : decode cX5_checkIndex 1 = .ok (.ifCond .lt 8, 3) := by decide +kernel
theorem dX5_checkIndex_4 : decode cX5_checkIndex 4 = .ok (.iload_n 0, 1) := by decide +kernel
theorem dX5_checkIndex_5 : decode cX5_checkIndex 5 = .ok (.iload_n 1, 1) := by decide +kernel
theorem dX5_checkIndex_6 : decode cX5_checkIndex 6 = .ok (.if_icmp .lt 13, 3) := by decide +kernel
theorem dX5_checkIndex_9 : decode cX5_checkIndex 9 = .ok (.new 169, 3) := by decide +kernel
theorem dX5_checkIndex_12 : decode cX5_checkIndex 12 = .ok (.dup, 1) := by decide +kernel
theorem dX5_checkIndex_13 : decode cX5_checkIndex 13 = .ok (.ldc 195, 2) := by decide +kernel
theorem dX5_checkIndex_15 : decode cX5_checkIndex 15 = .ok (.invokespecial 173, 3) := by decide +kernel
theorem dX5_checkIndex_18 : decode cX5_checkIndex 18 = .ok (.athrow, 1) := by decide +kernel
theorem dX5_checkIndex_19 : decode cX5_checkIndex 19 = .ok (.return_, 1) := by decide +kernel
set_option maxRecDepth 20000 in
theorem ggX5_checkEntry_X4_has : GoodIn wsX5_checkEntry wsX4_has := goodIn_r _ [7, 8, 9, 10, 11, 12, 13, 14, 15, 16, 17, 18, 19] (by decide +kernel) (by decide +kernel)
set_option maxRecDepth 20000 in
theorem gX5_checkEntry_X4_has : GoodIn wsX5_checkEntry (wsV RX5 135 RX4 yX4_has wsX4_has) := goodIn_app (goodIn_of _ (by decide +kernel)) ggX5_checkEntry_X4_has
theorem dX5_checkEntry_0 : decode cX5_checkEntry 0 = .ok (.aload_n 0, 1) := by decide +kernel
theorem dX5_checkEntry_1 : decode cX5_checkEntry 1 = .ok (.iload_n 1, 1) := by decide +kernel
theorem dX5_checkEntry_2 : decode cX5_checkEntry 2 = .ok (.invokevirtual 135, 3) := by decide +kernel
theorem dX5_checkEntry_5 : decode cX5_checkEntry 5 = .ok (.ifCond .ne 13, 3) := by decide +kernel
theorem dX5_checkEntry_8 : decode cX5_checkEntry 8 = .ok (.new 169, 3) := by decide +kernel
theorem dX5_checkEntry_11 : decode cX5_checkEntry 11 = .ok (.dup, 1) := by decide +kernel
theorem dX5_checkEntry_12 : decode cX5_checkEntry 12 = .ok (.ldc 197, 2) := by decide +kernel
theorem dX5_checkEntry_14 : decode cX5_checkEntry 14 = .ok (.invokespecial 173, 3) := by decide +kernel
theorem dX5_checkEntry_17 : decode cX5_checkEntry 17 = .ok (.athrow, 1) := by decide +kernel
theorem dX5_checkEntry_18 : decode cX5_checkEntry 18 = .ok (.return_, 1) := by decide +kernel
theorem dX5_checkArgument_0 : decode cX5_checkArgument 0 = .ok (.iload_n 0, 1) := by decide +kernel
theorem dX5_checkArgument_1 : decode cX5_checkArgument 1 = .ok (.iload_n 1, 1) := by decide +kernel
theorem dX5_checkArgument_2 : decode cX5_checkArgument 2 = .ok (.if_icmp .lt 8, 3) := by decide +kernel
theorem dX5_checkArgument_5 : decode cX5_checkArgument 5 = .ok (.iload_n 0, 1) := by decide +kernel
theorem dX5_checkArgument_6 : decode cX5_checkArgument 6 = .ok (.iload_n 2, 1) := by decide +kernel
theorem dX5_checkArgument_7 : decode cX5_checkArgument 7 = .ok (.if_icmp .le 13, 3) := by decide +kernel
theorem dX5_checkArgument_10 : decode cX5_checkArgument 10 = .ok (.new 199, 3) := by decide +kernel
theorem dX5_checkArgument_13 : decode cX5_checkArgument 13 = .ok (.dup, 1) := by decide +kernel
theorem dX5_checkArgument_14 : decode cX5_checkArgument 14 = .ok (.ldc 201, 2) := by decide +kernel
theorem dX5_checkArgument_16 : decode cX5_checkArgument 16 = .ok (.invokespecial 203, 3) := by decide +kernel
theorem dX5_checkArgument_19 : decode cX5_checkArgument 19 = .ok (.athrow, 1) := by decide +kernel
theorem dX5_checkArgument_20 : decode cX5_checkArgument 20 = .ok (.return_, 1) := by decide +kernel
theorem dX5_checkRoomForChange_0 : decode cX5_checkRoomForChange 0 = .ok (.aload_n 0, 1) := by decide +kernel
theorem dX5_checkRoomForChange_1 : decode cX5_checkRoomForChange 1 = .ok (.getfield 19, 3) := by decide +kernel
theorem dX5_checkRoomForChange_4 : decode cX5_checkRoomForChange 4 = .ok (.getfield 57, 3) := by decide +kernel
theorem dX5_checkRoomForChange_7 : decode cX5_checkRoomForChange 7 = .ok (.bipush 40, 2) := by decide +kernel
theorem dX5_checkRoomForChange_9 : decode cX5_checkRoomForChange 9 = .ok (.if_icmp .lt 13, 3) := by decide +kernel
theorem dX5_checkRoomForChange_12 : decode cX5_checkRoomForChange 12 = .ok (.new 61, 3) := by decide +kernel
theorem dX5_checkRoomForChange_15 : decode cX5_checkRoomForChange 15 = .ok (.dup, 1) := by decide +kernel
theorem dX5_checkRoomForChange_16 : decode cX5_checkRoomForChange 16 = .ok (.ldc 204, 2) := by decide +kernel
theorem dX5_checkRoomForChange_18 : decode cX5_checkRoomForChange 18 = .ok (.invokespecial 65, 3) := by decide +kernel
theorem dX5_checkRoomForChange_21 : decode cX5_checkRoomForChange 21 = .ok (.athrow, 1) := by decide +kernel
theorem dX5_checkRoomForChange_22 : decode cX5_checkRoomForChange 22 = .ok (.return_, 1) := by decide +kernel
theorem dX5_checkRoomForFilter_0 : decode cX5_checkRoomForFilter 0 = .ok (.aload_n 0, 1) := by decide +kernel
theorem dX5_checkRoomForFilter_1 : decode cX5_checkRoomForFilter 1 = .ok (.getfield 45, 3) := by decide +kernel
theorem dX5_checkRoomForFilter_4 : decode cX5_checkRoomForFilter 4 = .ok (.getfield 164, 3) := by decide +kernel
theorem dX5_checkRoomForFilter_7 : decode cX5_checkRoomForFilter 7 = .ok (.bipush 20, 2) := by decide +kernel
theorem dX5_checkRoomForFilter_9 : decode cX5_checkRoomForFilter 9 = .ok (.if_icmp .lt 13, 3) := by decide +kernel
theorem dX5_checkRoomForFilter_12 : decode cX5_checkRoomForFilter 12 = .ok (.new 61, 3) := by decide +kernel
theorem dX5_checkRoomForFilter_15 : decode cX5_checkRoomForFilter 15 = .ok (.dup, 1) := by decide +kernel
theorem dX5_checkRoomForFilter_16 : decode cX5_checkRoomForFilter 16 = .ok (.ldc 206, 2) := by decide +kernel
theorem dX5_checkRoomForFilter_18 : decode cX5_checkRoomForFilter 18 = .ok (.invokespecial 65, 3) := by decide +kernel
theorem dX5_checkRoomForFilter_21 : decode cX5_checkRoomForFilter 21 = .ok (.athrow, 1) := by decide +kernel
theorem dX5_checkRoomForFilter_22 : decode cX5_checkRoomForFilter 22 = .ok (.return_, 1) := by decide +kernel
theorem dX5_checkIsNotFixed_0 : decode cX5_checkIsNotFixed 0 = .ok (.iload_n 0, 1) := by decide +kernel
theorem dX5_checkIsNotFixed_1 : decode cX5_checkIsNotFixed 1 = .ok (.ifCond .eq 8, 3) := by decide +kernel
theorem dX5_checkIsNotFixed_4 : decode cX5_checkIsNotFixed 4 = .ok (.iload_n 0, 1) := by decide +kernel
theorem dX5_checkIsNotFixed_5 : decode cX5_checkIsNotFixed 5 = .ok (.iconst 1, 1) := by decide +kernel
theorem dX5_checkIsNotFixed_6 : decode cX5_checkIsNotFixed 6 = .ok (.if_icmp .ne 13, 3) := by decide +kernel
theorem dX5_checkIsNotFixed_9 : decode cX5_checkIsNotFixed 9 = .ok (.new 61, 3) := by decide +kernel
theorem dX5_checkIsNotFixed_12 : decode cX5_checkIsNotFixed 12 = .ok (.dup, 1) := by decide +kernel
theorem dX5_checkIsNotFixed_13 : decode cX5_checkIsNotFixed 13 = .ok (.ldc 208, 2) := by decide +kernel
theorem dX5_checkIsNotFixed_15 : decode cX5_checkIsNotFixed 15 = .ok (.invokespecial 65, 3) := by decide +kernel
theorem dX5_checkIsNotFixed_18 : decode cX5_checkIsNotFixed 18 = .ok (.athrow, 1) := by decide +kernel
theorem dX5_checkIsNotFixed_19 : decode cX5_checkIsNotFixed 19 = .ok (.return_, 1) := by decide +kernel
set_option maxRecDepth 20000 in
theorem ggX5_checkLabelIsFree_X4_childWithLabelLike : GoodIn wsX5_checkLabelIsFree wsX4_childWithLabelLike := goodIn_r _ [7, 8, 9, 10, 11, 6, 12, 13, 14, 15, 16, 17, 18, 19, 20, 21, 22, 23] (by decide +kernel) (by decide +kernel)
set_option maxRecDepth 20000 in
theorem gX5_checkLabelIsFree_X4_childWithLabelLike : GoodIn wsX5_checkLabelIsFree (wsV RX5 144 RX4 yX4_childWithLabelLike wsX4_childWithLabelLike) := goodIn_app (goodIn_of _ (by decide +kernel)) ggX5_checkLabelIsFree_X4_childWithLabelLike
theorem dX5_checkLabelIsFree_0 : decode cX5_checkLabelIsFree 0 = .ok (.aload_n 0, 1) := by decide +kernel
theorem dX5_checkLabelIsFree_1 : decode cX5_checkLabelIsFree 1 = .ok (.iload_n 1, 1) := by decide +kernel
theorem dX5_checkLabelIsFree_2 : decode cX5_checkLabelIsFree 2 = .ok (.iload_n 2, 1) := by decide +kernel
theorem dX5_checkLabelIsFree_3 : decode cX5_checkLabelIsFree 3 = .ok (.iload_n 3, 1) := by decide +kernel
theorem dX5_checkLabelIsFree_4 : decode cX5_checkLabelIsFree 4 = .ok (.invokevirtual 144, 3) := by decide +kernel
theorem dX5_checkLabelIsFree_7 : decode cX5_checkLabelIsFree 7 = .ok (.iconst (-1), 1) := by decide +kernel
theorem dX5_checkLabelIsFree_8 : decode cX5_checkLabelIsFree 8 = .ok (.if_icmp .eq 13, 3) := by decide +kernel
theorem dX5_checkLabelIsFree_11 : decode cX5_checkLabelIsFree 11 = .ok (.new 61, 3) := by decide +kernel
theorem dX5_checkLabelIsFree_14 : decode cX5_checkLabelIsFree 14 = .ok (.dup, 1) := by decide +kernel
theorem dX5_checkLabelIsFree_15 : decode cX5_checkLabelIsFree 15 = .ok (.ldc 210, 2) := by decide +kernel
theorem dX5_checkLabelIsFree_17 : decode cX5_checkLabelIsFree 17 = .ok (.invokespecial 65, 3) := by decide +kernel
theorem dX5_checkLabelIsFree_20 : decode cX5_checkLabelIsFree 20 = .ok (.athrow, 1) := by decide +kernel
theorem dX5_checkLabelIsFree_21 : decode cX5_checkLabelIsFree 21 = .ok (.return_, 1) := by decide +kernel
theorem dX5_at_0 : decode cX5_at 0 = .ok (.iload_n 1, 1) := by decide +kernel
theorem dX5_at_1 : decode cX5_at 1 = .ok (.ifCond .lt 15, 3) := by decide +kernel
theorem dX5_at_4 : decode cX5_at 4 = .ok (.iload_n 1, 1) := by decide +kernel
theorem dX5_at_5 : decode cX5_at 5 = .ok (.aload_n 0, 1) := by decide +kernel
theorem dX5_at_6 : decode cX5_at 6 = .ok (.arraylength, 1) := by decide +kernel
theorem dX5_at_7 : decode cX5_at 7 = .ok (.if_icmp .ge 9, 3) := by decide +kernel
theorem dX5_at_10 : decode cX5_at 10 = .ok (.aload_n 0, 1) := by decide +kernel
theorem dX5_at_11 : decode cX5_at 11 = .ok (.iload_n 1, 1) := by decide +kernel
theorem dX5_at_12 : decode cX5_at 12 = .ok (.iaload, 1) := by decide +kernel
theorem dX5_at_13 : decode cX5_at 13 = .ok (.goto 4, 3) := by decide +kernel
theorem dX5_at_16 : decode cX5_at 16 = .ok (.iconst (-1), 1) := by decide +kernel
theorem dX5_at_17 : decode cX5_at 17 = .ok (.ireturn, 1) := by decide +kernel
theorem dX5_put_0 : decode cX5_put 0 = .ok (.iload_n 1, 1) := by decide +kernel
theorem dX5_put_1 : decode cX5_put 1 = .ok (.ifCond .lt 13, 3) := by decide +kernel
theorem dX5_put_4 : decode cX5_put 4 = .ok (.iload_n 1, 1) := by decide +kernel
theorem dX5_put_5 : decode cX5_put 5 = .ok (.aload_n 0, 1) := by decide +kernel
theorem dX5_put_6 : decode cX5_put 6 = .ok (.arraylength, 1) := by decide +kernel
theorem dX5_put_7 : decode cX5_put 7 = .ok (.if_icmp .ge 7, 3) := by decide +kernel
theorem dX5_put_10 : decode cX5_put 10 = .ok (.aload_n 0, 1) := by decide +kernel
theorem dX5_put_11 : decode cX5_put 11 = .ok (.iload_n 1, 1) := by decide +kernel
theorem dX5_put_12 : decode cX5_put 12 = .ok (.iload_n 2, 1) := by decide +kernel
theorem dX5_put_13 : decode cX5_put 13 = .ok (.iastore, 1) := by decide +kernel
theorem dX5_put_14 : decode cX5_put 14 = .ok (.return_, 1) := by decide +kernel
end
section
def wsL_kind_r1 : List Cond := [Cond.classLink RL 13 "java/lang/IndexOutOfBoundsException", Cond.classLink RL 15 "java/lang/IllegalArgumentException", Cond.classLink RL 17 "java/lang/IllegalStateException", Cond.methodLink RL 7 yX5_setClass, Cond.instanceMethod yX5_setClass, Cond.selects RX5 yX5_setClass yX5_setClass, Cond.initialized RX5, Cond.code yX5_setClass cX5_setClass 4 none, Cond.classLink RX5 61 "java/lang/IllegalStateException", Cond.initialized "java/lang/IllegalStateException", Cond.fieldLink RX5 19 "EntryMasters" "log" "LEntryMasters$Log;", Cond.fieldLink RX5 12 "EntryMasters" "classes" "LEntryMasters$Classes;", Cond.methodLink RX5 49 yX5_checkIndex, Cond.static yX5_checkIndex, Cond.code yX5_checkIndex cX5_checkIndex 2 none, Cond.classLink RX5 169 "java/lang/IndexOutOfBoundsException", Cond.initialized "java/lang/IndexOutOfBoundsException", Cond.methodLink RX5 53 yX5_checkArgument, Cond.static yX5_checkArgument, Cond.code yX5_checkArgument cX5_checkArgument 3 none, Cond.classLink RX5 199 "java/lang/IllegalArgumentException", Cond.initialized "java/lang/IllegalArgumentException", Cond.methodLink RX5 68 yX0_define, Cond.instanceMethod yX0_define]
def wsL_kind_r2 : List Cond := [Cond.selects RX0 yX0_define yX0_define, Cond.initialized RX0, Cond.code yX0_define cX0_define 4 none, Cond.fieldLink RX0 9 "EntryMasters$Classes" "needed" "[I", Cond.fieldLink RX0 15 "EntryMasters$Classes" "allowed" "[I", Cond.static yX5_put, Cond.code yX5_put cX5_put 3 none]
def wsL_kind : List Cond := .codeWith yL_kind cL_kind 5 (some .int) [(0, 8, 9, 13), (0, 8, 14, 15), (0, 8, 19, 17)] :: ((wsL_kind_r1 ++ wsL_kind_r2) ++ wsX50 ++ wsX20 ++ wsX00 ++ (vx_atS RX5 65 "java/lang/IllegalStateException" ["java/lang/RuntimeException", "java/lang/Exception"]).filter goodWord ++ (vx_atS RX5 173 "java/lang/IndexOutOfBoundsException" ["java/lang/RuntimeException", "java/lang/Exception"]).filter goodWord ++ (vx_atS RX5 203 "java/lang/IllegalArgumentException" ["java/lang/RuntimeException", "java/lang/Exception"]).filter goodWord)
def wsL_right_r1 : List Cond := [Cond.classLink RL 13 "java/lang/IndexOutOfBoundsException", Cond.classLink RL 15 "java/lang/IllegalArgumentException", Cond.methodLink RL 19 yX5_setRight, Cond.instanceMethod yX5_setRight, Cond.selects RX5 yX5_setRight yX5_setRight, Cond.initialized RX5, Cond.code yX5_setRight cX5_setRight 4 none, Cond.fieldLink RX5 38 "EntryMasters" "marks" "LEntryMasters$Marks;", Cond.methodLink RX5 49 yX5_checkIndex, Cond.static yX5_checkIndex, Cond.code yX5_checkIndex cX5_checkIndex 2 none, Cond.classLink RX5 169 "java/lang/IndexOutOfBoundsException", Cond.initialized "java/lang/IndexOutOfBoundsException", Cond.methodLink RX5 53 yX5_checkArgument, Cond.static yX5_checkArgument, Cond.code yX5_checkArgument cX5_checkArgument 3 none, Cond.classLink RX5 199 "java/lang/IllegalArgumentException", Cond.initialized "java/lang/IllegalArgumentException", Cond.methodLink RX5 152 yX3_putRight, Cond.instanceMethod yX3_putRight, Cond.selects RX3 yX3_putRight yX3_putRight, Cond.initialized RX3, Cond.code yX3_putRight cX3_putRight 4 none, Cond.fieldLink RX3 9 "EntryMasters$Marks" "rights" "[I"]
def wsL_right_r2 : List Cond := [Cond.static yX5_put, Cond.code yX5_put cX5_put 3 none]
def wsL_right : List Cond := .codeWith yL_right cL_right 5 (some .int) [(0, 8, 9, 13), (0, 8, 14, 15)] :: ((wsL_right_r1 ++ wsL_right_r2) ++ wsX50 ++ wsX30 ++ (vx_atS RX5 173 "java/lang/IndexOutOfBoundsException" ["java/lang/RuntimeException", "java/lang/Exception"]).filter goodWord ++ (vx_atS RX5 203 "java/lang/IllegalArgumentException" ["java/lang/RuntimeException", "java/lang/Exception"]).filter goodWord)
def wsL_refer : List Cond := .codeWith yL_refer cL_refer 4 (some .int) [(0, 7, 8, 13)] :: ([.classLink RL 13 "java/lang/IndexOutOfBoundsException", .methodLink RL 22 yX5_refer, .instanceMethod yX5_refer, .selects RX5 yX5_refer yX5_refer, .initialized RX5, .code yX5_refer cX5_refer 3 none, .fieldLink RX5 38 "EntryMasters" "marks" "LEntryMasters$Marks;", .methodLink RX5 49 yX5_checkIndex, .static yX5_checkIndex, .code yX5_checkIndex cX5_checkIndex 2 none, .classLink RX5 169 "java/lang/IndexOutOfBoundsException", .initialized "java/lang/IndexOutOfBoundsException", .methodLink RX5 155 yX3_putReferral, .instanceMethod yX3_putReferral, .selects RX3 yX3_putReferral yX3_putReferral, .initialized RX3, .code yX3_putReferral cX3_putReferral 3 none, .fieldLink RX3 15 "EntryMasters$Marks" "referrals" "[Z"] ++ wsX50 ++ wsX30 ++ (vx_atS RX5 173 "java/lang/IndexOutOfBoundsException" ["java/lang/RuntimeException", "java/lang/Exception"]).filter goodWord)
def wsL_act_r1 : List Cond := [Cond.classLink RL 13 "java/lang/IndexOutOfBoundsException", Cond.classLink RL 15 "java/lang/IllegalArgumentException", Cond.classLink RL 17 "java/lang/IllegalStateException", Cond.methodLink RL 26 yX5_add, Cond.instanceMethod yX5_add, Cond.selects RX5 yX5_add yX5_add, Cond.initialized RX5, Cond.code yX5_add cX5_add 7 (some .int), Cond.fieldLink RX5 19 "EntryMasters" "log" "LEntryMasters$Log;", Cond.methodLink RX5 71 yX5_treeOf, Cond.instanceMethod yX5_treeOf, Cond.selects RX5 yX5_treeOf yX5_treeOf, Cond.code yX5_treeOf cX5_treeOf 2 (some (.object "EntryMasters$Tree")), Cond.fieldLink RX5 28 "EntryMasters" "firstTree" "LEntryMasters$Tree;", Cond.fieldLink RX5 32 "EntryMasters" "secondTree" "LEntryMasters$Tree;", Cond.methodLink RX5 49 yX5_checkIndex, Cond.static yX5_checkIndex, Cond.code yX5_checkIndex cX5_checkIndex 2 none, Cond.classLink RX5 169 "java/lang/IndexOutOfBoundsException", Cond.initialized "java/lang/IndexOutOfBoundsException", Cond.methodLink RX5 75 yX5_checkEntry, Cond.static yX5_checkEntry, Cond.code yX5_checkEntry cX5_checkEntry 2 none, Cond.methodLink RX5 135 yX4_has]
def wsL_act_r2 : List Cond := [Cond.instanceMethod yX4_has, Cond.selects RX4 yX4_has yX4_has, Cond.initialized RX4, Cond.code yX4_has cX4_has 2 (some .boolean), Cond.fieldLink RX4 15 "EntryMasters$Tree" "there" "[Z", Cond.methodLink RX5 53 yX5_checkArgument, Cond.static yX5_checkArgument, Cond.code yX5_checkArgument cX5_checkArgument 3 none, Cond.classLink RX5 199 "java/lang/IllegalArgumentException", Cond.initialized "java/lang/IllegalArgumentException", Cond.methodLink RX5 79 yX5_checkRoomForChange, Cond.instanceMethod yX5_checkRoomForChange, Cond.selects RX5 yX5_checkRoomForChange yX5_checkRoomForChange, Cond.code yX5_checkRoomForChange cX5_checkRoomForChange 1 none, Cond.classLink RX5 61 "java/lang/IllegalStateException", Cond.initialized "java/lang/IllegalStateException", Cond.methodLink RX5 82 yX5_checkLabelIsFree, Cond.static yX5_checkLabelIsFree, Cond.code yX5_checkLabelIsFree cX5_checkLabelIsFree 4 none, Cond.methodLink RX5 144 yX4_childWithLabelLike, Cond.instanceMethod yX4_childWithLabelLike, Cond.selects RX4 yX4_childWithLabelLike yX4_childWithLabelLike, Cond.code yX4_childWithLabelLike cX4_childWithLabelLike 5 (some .int), Cond.fieldLink RX4 19 "EntryMasters$Tree" "parents" "[I"]
def wsL_act_r3 : List Cond := [Cond.fieldLink RX4 22 "EntryMasters$Tree" "labels" "[I", Cond.methodLink RX4 148 yX4_areLike, Cond.static yX4_areLike, Cond.code yX4_areLike cX4_areLike 2 (some .boolean), Cond.methodLink RX5 86 yX4_stampOfNext, Cond.instanceMethod yX4_stampOfNext, Cond.selects RX4 yX4_stampOfNext yX4_stampOfNext, Cond.code yX4_stampOfNext cX4_stampOfNext 2 (some .int), Cond.fieldLink RX4 55 "EntryMasters$Tree" "knownCount" "I", Cond.fieldLink RX4 35 "EntryMasters$Tree" "log" "LEntryMasters$Log;", Cond.fieldLink RX4 9 "EntryMasters$Tree" "known" "[I", Cond.fieldLink RX4 31 "EntryMasters$Tree" "master" "I", Cond.static yX5_at, Cond.code yX5_at cX5_at 2 (some .int), Cond.methodLink RX4 62 yX2_timeAt, Cond.instanceMethod yX2_timeAt, Cond.selects RX2 yX2_timeAt yX2_timeAt, Cond.initialized RX2, Cond.code yX2_timeAt cX2_timeAt 2 (some .int), Cond.fieldLink RX2 15 "EntryMasters$Log" "stamps" "[I", Cond.methodLink RX4 68 yX2_stampFrom, Cond.static yX2_stampFrom, Cond.code yX2_stampFrom cX2_stampFrom 2 (some .int), Cond.methodLink RX5 90 yX2_append]
def wsL_act_r4 : List Cond := [Cond.instanceMethod yX2_append, Cond.selects RX2 yX2_append yX2_append, Cond.code yX2_append cX2_append 8 (some .int), Cond.fieldLink RX2 30 "EntryMasters$Log" "count" "I", Cond.fieldLink RX2 9 "EntryMasters$Log" "kinds" "[I", Cond.fieldLink RX2 18 "EntryMasters$Log" "entries" "[I", Cond.fieldLink RX2 21 "EntryMasters$Log" "targets" "[I", Cond.fieldLink RX2 24 "EntryMasters$Log" "contents" "[I", Cond.fieldLink RX2 27 "EntryMasters$Log" "classesOfAdded" "[I", Cond.static yX5_put, Cond.code yX5_put cX5_put 3 none, Cond.methodLink RX5 94 yX4_learn, Cond.instanceMethod yX4_learn, Cond.selects RX4 yX4_learn yX4_learn, Cond.code yX4_learn cX4_learn 3 none, Cond.methodLink RX4 72 yX4_putInOrder, Cond.instanceMethod yX4_putInOrder, Cond.selects RX4 yX4_putInOrder yX4_putInOrder, Cond.code yX4_putInOrder cX4_putInOrder 3 (some .int), Cond.methodLink RX4 79 yX2_stampAt, Cond.instanceMethod yX2_stampAt, Cond.selects RX2 yX2_stampAt yX2_stampAt, Cond.code yX2_stampAt cX2_stampAt 2 (some .int), Cond.methodLink RX4 43 yX4_clear]
def wsL_act_r5 : List Cond := [Cond.instanceMethod yX4_clear, Cond.selects RX4 yX4_clear yX4_clear, Cond.code yX4_clear cX4_clear 2 none, Cond.fieldLink RX4 25 "EntryMasters$Tree" "classesOfEntries" "[I", Cond.fieldLink RX4 28 "EntryMasters$Tree" "values" "[I", Cond.fieldLink RX4 52 "EntryMasters$Tree" "size" "I", Cond.methodLink RX4 46 yJ7_fill_53178, Cond.static yJ7_fill_53178, Cond.initialized RJ7, Cond.code yJ7_fill_53178 cJ7_fill_53178 4 none, Cond.methodLink RX4 75 yX4_perform, Cond.instanceMethod yX4_perform, Cond.selects RX4 yX4_perform yX4_perform, Cond.code yX4_perform cX4_perform 5 none, Cond.methodLink RX4 101 yX4_performAdding, Cond.instanceMethod yX4_performAdding, Cond.selects RX4 yX4_performAdding yX4_performAdding, Cond.code yX4_performAdding cX4_performAdding 5 none, Cond.methodLink RX4 115 yX4_settle, Cond.instanceMethod yX4_settle, Cond.selects RX4 yX4_settle yX4_settle, Cond.code yX4_settle cX4_settle 4 none, Cond.methodLink RX4 119 yX4_has, Cond.methodLink RX4 130 yX4_childWithLabelLike]
def wsL_act_r6 : List Cond := [Cond.methodLink RX4 105 yX4_performSetting, Cond.instanceMethod yX4_performSetting, Cond.selects RX4 yX4_performSetting yX4_performSetting, Cond.code yX4_performSetting cX4_performSetting 4 none, Cond.methodLink RX4 123 yX4_mayHold, Cond.instanceMethod yX4_mayHold, Cond.selects RX4 yX4_mayHold yX4_mayHold, Cond.code yX4_mayHold cX4_mayHold 3 (some .boolean), Cond.fieldLink RX4 39 "EntryMasters$Tree" "classes" "LEntryMasters$Classes;", Cond.methodLink RX4 134 yX0_allows, Cond.instanceMethod yX0_allows, Cond.selects RX0 yX0_allows yX0_allows, Cond.initialized RX0, Cond.code yX0_allows cX0_allows 3 (some .boolean), Cond.fieldLink RX0 15 "EntryMasters$Classes" "allowed" "[I", Cond.methodLink RX0 28 yX0_hasBit, Cond.static yX0_hasBit, Cond.code yX0_hasBit cX0_hasBit 2 (some .boolean), Cond.methodLink RX4 109 yX4_performMoving, Cond.instanceMethod yX4_performMoving, Cond.selects RX4 yX4_performMoving yX4_performMoving, Cond.code yX4_performMoving cX4_performMoving 4 none, Cond.methodLink RX4 127 yX4_isAtOrBelow, Cond.instanceMethod yX4_isAtOrBelow]
def wsL_act_r7 : List Cond := [Cond.selects RX4 yX4_isAtOrBelow yX4_isAtOrBelow, Cond.code yX4_isAtOrBelow cX4_isAtOrBelow 5 (some .boolean), Cond.methodLink RX4 145 yX4_parentAt, Cond.instanceMethod yX4_parentAt, Cond.selects RX4 yX4_parentAt yX4_parentAt, Cond.code yX4_parentAt cX4_parentAt 2 (some .int), Cond.methodLink RX4 112 yX4_performDeleting, Cond.instanceMethod yX4_performDeleting, Cond.selects RX4 yX4_performDeleting yX4_performDeleting, Cond.code yX4_performDeleting cX4_performDeleting 3 none, Cond.methodLink RL 30 yX5_set, Cond.instanceMethod yX5_set, Cond.selects RX5 yX5_set yX5_set, Cond.code yX5_set cX5_set 7 (some .int), Cond.methodLink RX5 98 yX4_mayHold, Cond.methodLink RX5 104 yX4_valueAt, Cond.instanceMethod yX4_valueAt, Cond.selects RX4 yX4_valueAt yX4_valueAt, Cond.code yX4_valueAt cX4_valueAt 3 (some .int), Cond.methodLink RL 33 yX5_move, Cond.instanceMethod yX5_move, Cond.selects RX5 yX5_move yX5_move, Cond.code yX5_move cX5_move 7 (some .int), Cond.methodLink RX5 108 yX5_checkIsNotFixed]
def wsL_act_r8 : List Cond := [Cond.static yX5_checkIsNotFixed, Cond.code yX5_checkIsNotFixed cX5_checkIsNotFixed 1 none, Cond.methodLink RX5 111 yX4_isAtOrBelow, Cond.methodLink RX5 116 yX4_parentAt, Cond.methodLink RL 36 yX5_delete, Cond.instanceMethod yX5_delete, Cond.selects RX5 yX5_delete yX5_delete, Cond.code yX5_delete cX5_delete 4 (some .int), Cond.methodLink RX5 120 yX4_hasChild, Cond.instanceMethod yX4_hasChild, Cond.selects RX4 yX4_hasChild yX4_hasChild, Cond.code yX4_hasChild cX4_hasChild 3 (some .boolean), Cond.methodLink RL 40 yX5_carry, Cond.instanceMethod yX5_carry, Cond.selects RX5 yX5_carry yX5_carry, Cond.code yX5_carry cX5_carry 4 (some .boolean), Cond.methodLink RX5 129 yX4_knows, Cond.instanceMethod yX4_knows, Cond.selects RX4 yX4_knows yX4_knows, Cond.code yX4_knows cX4_knows 3 (some .boolean), Cond.methodLink RL 44 yX5_timeOf, Cond.instanceMethod yX5_timeOf, Cond.selects RX5 yX5_timeOf yX5_timeOf, Cond.code yX5_timeOf cX5_timeOf 2 (some .int)]
def wsL_act_r9 : List Cond := [Cond.methodLink RX5 132 yX2_timeAt, Cond.methodLink RL 48 yX5_entries, Cond.instanceMethod yX5_entries, Cond.selects RX5 yX5_entries yX5_entries, Cond.code yX5_entries cX5_entries 2 (some .int), Cond.methodLink RL 51 yX5_isThere, Cond.instanceMethod yX5_isThere, Cond.selects RX5 yX5_isThere yX5_isThere, Cond.code yX5_isThere cX5_isThere 3 (some .boolean), Cond.methodLink RL 54 yX5_parentOf, Cond.instanceMethod yX5_parentOf, Cond.selects RX5 yX5_parentOf yX5_parentOf, Cond.code yX5_parentOf cX5_parentOf 4 (some .int), Cond.methodLink RL 57 yX5_labelOf, Cond.instanceMethod yX5_labelOf, Cond.selects RX5 yX5_labelOf yX5_labelOf, Cond.code yX5_labelOf cX5_labelOf 4 (some .int), Cond.methodLink RX5 138 yX4_labelAt, Cond.instanceMethod yX4_labelAt, Cond.selects RX4 yX4_labelAt yX4_labelAt, Cond.code yX4_labelAt cX4_labelAt 2 (some .int), Cond.methodLink RL 60 yX5_value, Cond.instanceMethod yX5_value, Cond.selects RX5 yX5_value yX5_value]
def wsL_act_r10 : List Cond := [Cond.code yX5_value cX5_value 5 (some .int), Cond.methodLink RL 64 yX5_isWhole, Cond.instanceMethod yX5_isWhole, Cond.selects RX5 yX5_isWhole yX5_isWhole, Cond.code yX5_isWhole cX5_isWhole 4 (some .boolean), Cond.methodLink RX5 141 yX4_hasAllNeeded, Cond.instanceMethod yX4_hasAllNeeded, Cond.selects RX4 yX4_hasAllNeeded yX4_hasAllNeeded, Cond.code yX4_hasAllNeeded cX4_hasAllNeeded 4 (some .boolean), Cond.methodLink RX4 139 yX0_needs, Cond.instanceMethod yX0_needs, Cond.selects RX0 yX0_needs yX0_needs, Cond.code yX0_needs cX0_needs 3 (some .boolean), Cond.fieldLink RX0 9 "EntryMasters$Classes" "needed" "[I", Cond.methodLink RX4 142 yX4_valueAt, Cond.methodLink RL 67 yX5_find, Cond.instanceMethod yX5_find, Cond.selects RX5 yX5_find yX5_find, Cond.code yX5_find cX5_find 5 (some .int), Cond.methodLink RL 70 yX5_test, Cond.instanceMethod yX5_test, Cond.selects RX5 yX5_test yX5_test, Cond.code yX5_test cX5_test 4 (some .int), Cond.fieldLink RX5 45 "EntryMasters" "filters" "LEntryMasters$Filters;"]
def wsL_act_r11 : List Cond := [Cond.methodLink RX5 159 yX5_checkRoomForFilter, Cond.instanceMethod yX5_checkRoomForFilter, Cond.selects RX5 yX5_checkRoomForFilter yX5_checkRoomForFilter, Cond.code yX5_checkRoomForFilter cX5_checkRoomForFilter 1 none, Cond.methodLink RX5 162 yX1_append, Cond.instanceMethod yX1_append, Cond.selects RX1 yX1_append yX1_append, Cond.initialized RX1, Cond.code yX1_append cX1_append 5 (some .int), Cond.fieldLink RX1 24 "EntryMasters$Filters" "count" "I", Cond.fieldLink RX1 9 "EntryMasters$Filters" "kinds" "[I", Cond.fieldLink RX1 15 "EntryMasters$Filters" "firsts" "[I", Cond.fieldLink RX1 18 "EntryMasters$Filters" "seconds" "[I", Cond.methodLink RL 73 yX5_join, Cond.instanceMethod yX5_join, Cond.selects RX5 yX5_join yX5_join, Cond.code yX5_join cX5_join 4 (some .int), Cond.methodLink RL 76 yX5_holds, Cond.instanceMethod yX5_holds, Cond.selects RX5 yX5_holds yX5_holds, Cond.code yX5_holds cX5_holds 5 (some .int), Cond.methodLink RX5 165 yX1_truthFor, Cond.instanceMethod yX1_truthFor, Cond.selects RX1 yX1_truthFor yX1_truthFor]
def wsL_act_r12 : List Cond := [Cond.code yX1_truthFor cX1_truthFor 8 (some .int), Cond.fieldLink RX1 21 "EntryMasters$Filters" "truths" "[I", Cond.methodLink RX1 32 yX1_truthOfTest, Cond.static yX1_truthOfTest, Cond.code yX1_truthOfTest cX1_truthOfTest 6 (some .int), Cond.methodLink RX1 44 yX4_mayHold, Cond.methodLink RX1 50 yX4_valueAt, Cond.methodLink RX1 40 yX1_truthOfJoin, Cond.static yX1_truthOfJoin, Cond.code yX1_truthOfJoin cX1_truthOfJoin 3 (some .int), Cond.methodLink RX1 54 yX1_both, Cond.static yX1_both, Cond.code yX1_both cX1_both 2 (some .int), Cond.methodLink RX1 57 yX1_opposite, Cond.static yX1_opposite, Cond.code yX1_opposite cX1_opposite 1 (some .int), Cond.methodLink RL 79 yX5_search, Cond.instanceMethod yX5_search, Cond.selects RX5 yX5_search yX5_search, Cond.code yX5_search cX5_search 11 (some .int), Cond.fieldLink RX5 38 "EntryMasters" "marks" "LEntryMasters$Marks;", Cond.methodLink RX5 174 yX4_childAfter, Cond.instanceMethod yX4_childAfter, Cond.selects RX4 yX4_childAfter yX4_childAfter]
def wsL_act_r13 : List Cond := [Cond.code yX4_childAfter cX4_childAfter 6 (some .int), Cond.methodLink RX4 158 yX3_isReferral, Cond.instanceMethod yX3_isReferral, Cond.selects RX3 yX3_isReferral yX3_isReferral, Cond.initialized RX3, Cond.code yX3_isReferral cX3_isReferral 2 (some .boolean), Cond.fieldLink RX3 15 "EntryMasters$Marks" "referrals" "[Z", Cond.methodLink RX4 163 yX4_orderUnderParent, Cond.instanceMethod yX4_orderUnderParent, Cond.selects RX4 yX4_orderUnderParent yX4_orderUnderParent, Cond.code yX4_orderUnderParent cX4_orderUnderParent 3 (some .int), Cond.methodLink RX4 155 yX4_labelAt, Cond.methodLink RX5 178 yX5_isFound, Cond.instanceMethod yX5_isFound, Cond.selects RX5 yX5_isFound yX5_isFound, Cond.code yX5_isFound cX5_isFound 5 (some .boolean), Cond.methodLink RX5 186 yX3_rightThatCounts, Cond.instanceMethod yX3_rightThatCounts, Cond.selects RX3 yX3_rightThatCounts yX3_rightThatCounts, Cond.code yX3_rightThatCounts cX3_rightThatCounts 7 (some .int), Cond.fieldLink RX3 9 "EntryMasters$Marks" "rights" "[I", Cond.methodLink RX3 33 yX4_parentAt, Cond.methodLink RX5 182 yX5_nextInScope, Cond.instanceMethod yX5_nextInScope]
def wsL_act_r14 : List Cond := [Cond.selects RX5 yX5_nextInScope yX5_nextInScope, Cond.code yX5_nextInScope cX5_nextInScope 5 (some .int), Cond.methodLink RX5 189 yX4_orderUnderParent, Cond.methodLink RX5 192 yX4_entryAfter, Cond.instanceMethod yX4_entryAfter, Cond.selects RX4 yX4_entryAfter yX4_entryAfter, Cond.code yX4_entryAfter cX4_entryAfter 8 (some .int), Cond.methodLink RX4 166 yX4_childAfter]
def wsL_act : List Cond := .codeWith yL_act cL_act 7 (some .int) [(0, 289, 290, 13), (0, 289, 295, 15), (0, 289, 300, 17)] :: ((wsL_act_r1 ++ (wsL_act_r2 ++ (wsL_act_r3 ++ (wsL_act_r4 ++ (wsL_act_r5 ++ (wsL_act_r6 ++ (wsL_act_r7 ++ (wsL_act_r8 ++ (wsL_act_r9 ++ (wsL_act_r10 ++ (wsL_act_r11 ++ (wsL_act_r12 ++ (wsL_act_r13 ++ wsL_act_r14))))))))))))) ++ wsX50 ++ wsX20 ++ wsX40 ++ wsX00 ++ wsX10 ++ wsX30 ++ (vx_atS RX5 173 "java/lang/IndexOutOfBoundsException" ["java/lang/RuntimeException", "java/lang/Exception"]).filter goodWord ++ (vx_atS RX5 203 "java/lang/IllegalArgumentException" ["java/lang/RuntimeException", "java/lang/Exception"]).filter goodWord ++ (vx_atS RX5 65 "java/lang/IllegalStateException" ["java/lang/RuntimeException", "java/lang/Exception"]).filter goodWord)
def wsL_search_r1 : List Cond := [Cond.classLink RL 13 "java/lang/IndexOutOfBoundsException", Cond.classLink RL 15 "java/lang/IllegalArgumentException", Cond.methodLink RL 79 yX5_search, Cond.instanceMethod yX5_search, Cond.selects RX5 yX5_search yX5_search, Cond.initialized RX5, Cond.code yX5_search cX5_search 11 (some .int), Cond.classLink RX5 169 "java/lang/IndexOutOfBoundsException", Cond.initialized "java/lang/IndexOutOfBoundsException", Cond.fieldLink RX5 45 "EntryMasters" "filters" "LEntryMasters$Filters;", Cond.fieldLink RX5 38 "EntryMasters" "marks" "LEntryMasters$Marks;", Cond.methodLink RX5 71 yX5_treeOf, Cond.instanceMethod yX5_treeOf, Cond.selects RX5 yX5_treeOf yX5_treeOf, Cond.code yX5_treeOf cX5_treeOf 2 (some (.object "EntryMasters$Tree")), Cond.fieldLink RX5 28 "EntryMasters" "firstTree" "LEntryMasters$Tree;", Cond.fieldLink RX5 32 "EntryMasters" "secondTree" "LEntryMasters$Tree;", Cond.methodLink RX5 49 yX5_checkIndex, Cond.static yX5_checkIndex, Cond.code yX5_checkIndex cX5_checkIndex 2 none, Cond.methodLink RX5 75 yX5_checkEntry, Cond.static yX5_checkEntry, Cond.code yX5_checkEntry cX5_checkEntry 2 none, Cond.methodLink RX5 135 yX4_has]
def wsL_search_r2 : List Cond := [Cond.instanceMethod yX4_has, Cond.selects RX4 yX4_has yX4_has, Cond.initialized RX4, Cond.code yX4_has cX4_has 2 (some .boolean), Cond.fieldLink RX4 15 "EntryMasters$Tree" "there" "[Z", Cond.methodLink RX5 53 yX5_checkArgument, Cond.static yX5_checkArgument, Cond.code yX5_checkArgument cX5_checkArgument 3 none, Cond.classLink RX5 199 "java/lang/IllegalArgumentException", Cond.initialized "java/lang/IllegalArgumentException", Cond.methodLink RX5 174 yX4_childAfter, Cond.instanceMethod yX4_childAfter, Cond.selects RX4 yX4_childAfter yX4_childAfter, Cond.code yX4_childAfter cX4_childAfter 6 (some .int), Cond.fieldLink RX4 19 "EntryMasters$Tree" "parents" "[I", Cond.methodLink RX4 158 yX3_isReferral, Cond.instanceMethod yX3_isReferral, Cond.selects RX3 yX3_isReferral yX3_isReferral, Cond.initialized RX3, Cond.code yX3_isReferral cX3_isReferral 2 (some .boolean), Cond.fieldLink RX3 15 "EntryMasters$Marks" "referrals" "[Z", Cond.methodLink RX4 163 yX4_orderUnderParent, Cond.instanceMethod yX4_orderUnderParent, Cond.selects RX4 yX4_orderUnderParent yX4_orderUnderParent]
def wsL_search_r3 : List Cond := [Cond.code yX4_orderUnderParent cX4_orderUnderParent 3 (some .int), Cond.methodLink RX4 155 yX4_labelAt, Cond.instanceMethod yX4_labelAt, Cond.selects RX4 yX4_labelAt yX4_labelAt, Cond.code yX4_labelAt cX4_labelAt 2 (some .int), Cond.fieldLink RX4 22 "EntryMasters$Tree" "labels" "[I", Cond.static yX5_at, Cond.code yX5_at cX5_at 2 (some .int), Cond.methodLink RX5 178 yX5_isFound, Cond.instanceMethod yX5_isFound, Cond.selects RX5 yX5_isFound yX5_isFound, Cond.code yX5_isFound cX5_isFound 5 (some .boolean), Cond.methodLink RX5 165 yX1_truthFor, Cond.instanceMethod yX1_truthFor, Cond.selects RX1 yX1_truthFor yX1_truthFor, Cond.initialized RX1, Cond.code yX1_truthFor cX1_truthFor 8 (some .int), Cond.fieldLink RX1 9 "EntryMasters$Filters" "kinds" "[I", Cond.fieldLink RX1 15 "EntryMasters$Filters" "firsts" "[I", Cond.fieldLink RX1 18 "EntryMasters$Filters" "seconds" "[I", Cond.fieldLink RX1 21 "EntryMasters$Filters" "truths" "[I", Cond.methodLink RX1 32 yX1_truthOfTest, Cond.static yX1_truthOfTest, Cond.code yX1_truthOfTest cX1_truthOfTest 6 (some .int)]
def wsL_search_r4 : List Cond := [Cond.methodLink RX1 44 yX4_mayHold, Cond.instanceMethod yX4_mayHold, Cond.selects RX4 yX4_mayHold yX4_mayHold, Cond.code yX4_mayHold cX4_mayHold 3 (some .boolean), Cond.fieldLink RX4 39 "EntryMasters$Tree" "classes" "LEntryMasters$Classes;", Cond.fieldLink RX4 25 "EntryMasters$Tree" "classesOfEntries" "[I", Cond.methodLink RX4 134 yX0_allows, Cond.instanceMethod yX0_allows, Cond.selects RX0 yX0_allows yX0_allows, Cond.initialized RX0, Cond.code yX0_allows cX0_allows 3 (some .boolean), Cond.fieldLink RX0 15 "EntryMasters$Classes" "allowed" "[I", Cond.methodLink RX0 28 yX0_hasBit, Cond.static yX0_hasBit, Cond.code yX0_hasBit cX0_hasBit 2 (some .boolean), Cond.methodLink RX1 50 yX4_valueAt, Cond.instanceMethod yX4_valueAt, Cond.selects RX4 yX4_valueAt yX4_valueAt, Cond.code yX4_valueAt cX4_valueAt 3 (some .int), Cond.fieldLink RX4 28 "EntryMasters$Tree" "values" "[I", Cond.methodLink RX1 40 yX1_truthOfJoin, Cond.static yX1_truthOfJoin, Cond.code yX1_truthOfJoin cX1_truthOfJoin 3 (some .int), Cond.methodLink RX1 54 yX1_both]
def wsL_search_r5 : List Cond := [Cond.static yX1_both, Cond.code yX1_both cX1_both 2 (some .int), Cond.methodLink RX1 57 yX1_opposite, Cond.static yX1_opposite, Cond.code yX1_opposite cX1_opposite 1 (some .int), Cond.methodLink RX5 186 yX3_rightThatCounts, Cond.instanceMethod yX3_rightThatCounts, Cond.selects RX3 yX3_rightThatCounts yX3_rightThatCounts, Cond.code yX3_rightThatCounts cX3_rightThatCounts 7 (some .int), Cond.fieldLink RX3 9 "EntryMasters$Marks" "rights" "[I", Cond.methodLink RX3 33 yX4_parentAt, Cond.instanceMethod yX4_parentAt, Cond.selects RX4 yX4_parentAt yX4_parentAt, Cond.code yX4_parentAt cX4_parentAt 2 (some .int), Cond.methodLink RX5 182 yX5_nextInScope, Cond.instanceMethod yX5_nextInScope, Cond.selects RX5 yX5_nextInScope yX5_nextInScope, Cond.code yX5_nextInScope cX5_nextInScope 5 (some .int), Cond.methodLink RX5 189 yX4_orderUnderParent, Cond.methodLink RX5 192 yX4_entryAfter, Cond.instanceMethod yX4_entryAfter, Cond.selects RX4 yX4_entryAfter yX4_entryAfter, Cond.code yX4_entryAfter cX4_entryAfter 8 (some .int), Cond.methodLink RX4 166 yX4_childAfter]
def wsL_search_r6 : List Cond := [Cond.methodLink RX4 145 yX4_parentAt]
def wsL_search : List Cond := .codeWith yL_search cL_search 8 (some .int) [(0, 13, 14, 13), (0, 13, 19, 15)] :: ((wsL_search_r1 ++ (wsL_search_r2 ++ (wsL_search_r3 ++ (wsL_search_r4 ++ (wsL_search_r5 ++ wsL_search_r6))))) ++ wsX50 ++ wsX10 ++ wsX40 ++ wsX30 ++ wsX00 ++ (vx_atS RX5 173 "java/lang/IndexOutOfBoundsException" ["java/lang/RuntimeException", "java/lang/Exception"]).filter goodWord ++ (vx_atS RX5 203 "java/lang/IllegalArgumentException" ["java/lang/RuntimeException", "java/lang/Exception"]).filter goodWord)
def wsL_refuses_r1 : List Cond := [Cond.constant RL 91 (2147483647), Cond.methodLink RL 83 yX5_changes, Cond.instanceMethod yX5_changes, Cond.selects RX5 yX5_changes yX5_changes, Cond.initialized RX5, Cond.code yX5_changes cX5_changes 1 (some .int), Cond.fieldLink RX5 19 "EntryMasters" "log" "LEntryMasters$Log;", Cond.methodLink RL 48 yX5_entries, Cond.instanceMethod yX5_entries, Cond.selects RX5 yX5_entries yX5_entries, Cond.code yX5_entries cX5_entries 2 (some .int), Cond.methodLink RX5 71 yX5_treeOf, Cond.instanceMethod yX5_treeOf, Cond.selects RX5 yX5_treeOf yX5_treeOf, Cond.code yX5_treeOf cX5_treeOf 2 (some (.object "EntryMasters$Tree")), Cond.fieldLink RX5 28 "EntryMasters" "firstTree" "LEntryMasters$Tree;", Cond.fieldLink RX5 32 "EntryMasters" "secondTree" "LEntryMasters$Tree;", Cond.methodLink RX5 49 yX5_checkIndex, Cond.static yX5_checkIndex, Cond.code yX5_checkIndex cX5_checkIndex 2 none, Cond.classLink RX5 169 "java/lang/IndexOutOfBoundsException", Cond.initialized "java/lang/IndexOutOfBoundsException", Cond.methodLink RL 87 yX5_areAlike, Cond.instanceMethod yX5_areAlike]
def wsL_refuses_r2 : List Cond := [Cond.selects RX5 yX5_areAlike yX5_areAlike, Cond.code yX5_areAlike cX5_areAlike 1 (some .boolean), Cond.methodLink RX5 148 yX4_isSameAs, Cond.instanceMethod yX4_isSameAs, Cond.selects RX4 yX4_isSameAs yX4_isSameAs, Cond.initialized RX4, Cond.code yX4_isSameAs cX4_isSameAs 3 (some .boolean), Cond.fieldLink RX4 15 "EntryMasters$Tree" "there" "[Z", Cond.methodLink RX4 151 yX4_hasSameEntry, Cond.instanceMethod yX4_hasSameEntry, Cond.selects RX4 yX4_hasSameEntry yX4_hasSameEntry, Cond.code yX4_hasSameEntry cX4_hasSameEntry 4 (some .boolean), Cond.fieldLink RX4 25 "EntryMasters$Tree" "classesOfEntries" "[I", Cond.methodLink RX4 142 yX4_valueAt, Cond.instanceMethod yX4_valueAt, Cond.selects RX4 yX4_valueAt yX4_valueAt, Cond.code yX4_valueAt cX4_valueAt 3 (some .int), Cond.fieldLink RX4 28 "EntryMasters$Tree" "values" "[I", Cond.static yX5_at, Cond.code yX5_at cX5_at 2 (some .int), Cond.methodLink RX4 145 yX4_parentAt, Cond.instanceMethod yX4_parentAt, Cond.selects RX4 yX4_parentAt yX4_parentAt, Cond.code yX4_parentAt cX4_parentAt 2 (some .int)]
def wsL_refuses_r3 : List Cond := [Cond.fieldLink RX4 19 "EntryMasters$Tree" "parents" "[I", Cond.methodLink RX4 155 yX4_labelAt, Cond.instanceMethod yX4_labelAt, Cond.selects RX4 yX4_labelAt yX4_labelAt, Cond.code yX4_labelAt cX4_labelAt 2 (some .int), Cond.fieldLink RX4 22 "EntryMasters$Tree" "labels" "[I", Cond.methodLink RL 92 yL_kind, Cond.static yL_kind, Cond.initialized RL, Cond.codeWith yL_kind cL_kind 5 (some .int) [(0, 8, 9, 13), (0, 8, 14, 15), (0, 8, 19, 17)], Cond.classLink RL 13 "java/lang/IndexOutOfBoundsException", Cond.classLink RL 15 "java/lang/IllegalArgumentException", Cond.classLink RL 17 "java/lang/IllegalStateException", Cond.methodLink RL 7 yX5_setClass, Cond.instanceMethod yX5_setClass, Cond.selects RX5 yX5_setClass yX5_setClass, Cond.code yX5_setClass cX5_setClass 4 none, Cond.classLink RX5 61 "java/lang/IllegalStateException", Cond.initialized "java/lang/IllegalStateException", Cond.fieldLink RX5 12 "EntryMasters" "classes" "LEntryMasters$Classes;", Cond.methodLink RX5 53 yX5_checkArgument, Cond.static yX5_checkArgument, Cond.code yX5_checkArgument cX5_checkArgument 3 none, Cond.classLink RX5 199 "java/lang/IllegalArgumentException"]
def wsL_refuses_r4 : List Cond := [Cond.initialized "java/lang/IllegalArgumentException", Cond.methodLink RX5 68 yX0_define, Cond.instanceMethod yX0_define, Cond.selects RX0 yX0_define yX0_define, Cond.initialized RX0, Cond.code yX0_define cX0_define 4 none, Cond.fieldLink RX0 9 "EntryMasters$Classes" "needed" "[I", Cond.fieldLink RX0 15 "EntryMasters$Classes" "allowed" "[I", Cond.static yX5_put, Cond.code yX5_put cX5_put 3 none, Cond.methodLink RL 98 yL_act, Cond.static yL_act, Cond.codeWith yL_act cL_act 7 (some .int) [(0, 289, 290, 13), (0, 289, 295, 15), (0, 289, 300, 17)], Cond.methodLink RL 26 yX5_add, Cond.instanceMethod yX5_add, Cond.selects RX5 yX5_add yX5_add, Cond.code yX5_add cX5_add 7 (some .int), Cond.methodLink RX5 75 yX5_checkEntry, Cond.static yX5_checkEntry, Cond.code yX5_checkEntry cX5_checkEntry 2 none, Cond.methodLink RX5 135 yX4_has, Cond.instanceMethod yX4_has, Cond.selects RX4 yX4_has yX4_has, Cond.code yX4_has cX4_has 2 (some .boolean)]
def wsL_refuses_r5 : List Cond := [Cond.methodLink RX5 79 yX5_checkRoomForChange, Cond.instanceMethod yX5_checkRoomForChange, Cond.selects RX5 yX5_checkRoomForChange yX5_checkRoomForChange, Cond.code yX5_checkRoomForChange cX5_checkRoomForChange 1 none, Cond.methodLink RX5 82 yX5_checkLabelIsFree, Cond.static yX5_checkLabelIsFree, Cond.code yX5_checkLabelIsFree cX5_checkLabelIsFree 4 none, Cond.methodLink RX5 144 yX4_childWithLabelLike, Cond.instanceMethod yX4_childWithLabelLike, Cond.selects RX4 yX4_childWithLabelLike yX4_childWithLabelLike, Cond.code yX4_childWithLabelLike cX4_childWithLabelLike 5 (some .int), Cond.methodLink RX4 148 yX4_areLike, Cond.static yX4_areLike, Cond.code yX4_areLike cX4_areLike 2 (some .boolean), Cond.methodLink RX5 86 yX4_stampOfNext, Cond.instanceMethod yX4_stampOfNext, Cond.selects RX4 yX4_stampOfNext yX4_stampOfNext, Cond.code yX4_stampOfNext cX4_stampOfNext 2 (some .int), Cond.fieldLink RX4 55 "EntryMasters$Tree" "knownCount" "I", Cond.fieldLink RX4 35 "EntryMasters$Tree" "log" "LEntryMasters$Log;", Cond.fieldLink RX4 9 "EntryMasters$Tree" "known" "[I", Cond.fieldLink RX4 31 "EntryMasters$Tree" "master" "I", Cond.methodLink RX4 62 yX2_timeAt, Cond.instanceMethod yX2_timeAt]
def wsL_refuses_r6 : List Cond := [Cond.selects RX2 yX2_timeAt yX2_timeAt, Cond.initialized RX2, Cond.code yX2_timeAt cX2_timeAt 2 (some .int), Cond.fieldLink RX2 15 "EntryMasters$Log" "stamps" "[I", Cond.methodLink RX4 68 yX2_stampFrom, Cond.static yX2_stampFrom, Cond.code yX2_stampFrom cX2_stampFrom 2 (some .int), Cond.methodLink RX5 90 yX2_append, Cond.instanceMethod yX2_append, Cond.selects RX2 yX2_append yX2_append, Cond.code yX2_append cX2_append 8 (some .int), Cond.fieldLink RX2 30 "EntryMasters$Log" "count" "I", Cond.fieldLink RX2 9 "EntryMasters$Log" "kinds" "[I", Cond.fieldLink RX2 18 "EntryMasters$Log" "entries" "[I", Cond.fieldLink RX2 21 "EntryMasters$Log" "targets" "[I", Cond.fieldLink RX2 24 "EntryMasters$Log" "contents" "[I", Cond.fieldLink RX2 27 "EntryMasters$Log" "classesOfAdded" "[I", Cond.methodLink RX5 94 yX4_learn, Cond.instanceMethod yX4_learn, Cond.selects RX4 yX4_learn yX4_learn, Cond.code yX4_learn cX4_learn 3 none, Cond.methodLink RX4 72 yX4_putInOrder, Cond.instanceMethod yX4_putInOrder, Cond.selects RX4 yX4_putInOrder yX4_putInOrder]
def wsL_refuses_r7 : List Cond := [Cond.code yX4_putInOrder cX4_putInOrder 3 (some .int), Cond.methodLink RX4 79 yX2_stampAt, Cond.instanceMethod yX2_stampAt, Cond.selects RX2 yX2_stampAt yX2_stampAt, Cond.code yX2_stampAt cX2_stampAt 2 (some .int), Cond.methodLink RX4 43 yX4_clear, Cond.instanceMethod yX4_clear, Cond.selects RX4 yX4_clear yX4_clear, Cond.code yX4_clear cX4_clear 2 none, Cond.fieldLink RX4 52 "EntryMasters$Tree" "size" "I", Cond.methodLink RX4 46 yJ7_fill_53178, Cond.static yJ7_fill_53178, Cond.initialized RJ7, Cond.code yJ7_fill_53178 cJ7_fill_53178 4 none, Cond.methodLink RX4 75 yX4_perform, Cond.instanceMethod yX4_perform, Cond.selects RX4 yX4_perform yX4_perform, Cond.code yX4_perform cX4_perform 5 none, Cond.methodLink RX4 101 yX4_performAdding, Cond.instanceMethod yX4_performAdding, Cond.selects RX4 yX4_performAdding yX4_performAdding, Cond.code yX4_performAdding cX4_performAdding 5 none, Cond.methodLink RX4 115 yX4_settle, Cond.instanceMethod yX4_settle]
def wsL_refuses_r8 : List Cond := [Cond.selects RX4 yX4_settle yX4_settle, Cond.code yX4_settle cX4_settle 4 none, Cond.methodLink RX4 119 yX4_has, Cond.methodLink RX4 130 yX4_childWithLabelLike, Cond.methodLink RX4 105 yX4_performSetting, Cond.instanceMethod yX4_performSetting, Cond.selects RX4 yX4_performSetting yX4_performSetting, Cond.code yX4_performSetting cX4_performSetting 4 none, Cond.methodLink RX4 123 yX4_mayHold, Cond.instanceMethod yX4_mayHold, Cond.selects RX4 yX4_mayHold yX4_mayHold, Cond.code yX4_mayHold cX4_mayHold 3 (some .boolean), Cond.fieldLink RX4 39 "EntryMasters$Tree" "classes" "LEntryMasters$Classes;", Cond.methodLink RX4 134 yX0_allows, Cond.instanceMethod yX0_allows, Cond.selects RX0 yX0_allows yX0_allows, Cond.code yX0_allows cX0_allows 3 (some .boolean), Cond.methodLink RX0 28 yX0_hasBit, Cond.static yX0_hasBit, Cond.code yX0_hasBit cX0_hasBit 2 (some .boolean), Cond.methodLink RX4 109 yX4_performMoving, Cond.instanceMethod yX4_performMoving, Cond.selects RX4 yX4_performMoving yX4_performMoving, Cond.code yX4_performMoving cX4_performMoving 4 none]
def wsL_refuses_r9 : List Cond := [Cond.methodLink RX4 127 yX4_isAtOrBelow, Cond.instanceMethod yX4_isAtOrBelow, Cond.selects RX4 yX4_isAtOrBelow yX4_isAtOrBelow, Cond.code yX4_isAtOrBelow cX4_isAtOrBelow 5 (some .boolean), Cond.methodLink RX4 112 yX4_performDeleting, Cond.instanceMethod yX4_performDeleting, Cond.selects RX4 yX4_performDeleting yX4_performDeleting, Cond.code yX4_performDeleting cX4_performDeleting 3 none, Cond.methodLink RL 30 yX5_set, Cond.instanceMethod yX5_set, Cond.selects RX5 yX5_set yX5_set, Cond.code yX5_set cX5_set 7 (some .int), Cond.methodLink RX5 98 yX4_mayHold, Cond.methodLink RX5 104 yX4_valueAt, Cond.methodLink RL 33 yX5_move, Cond.instanceMethod yX5_move, Cond.selects RX5 yX5_move yX5_move, Cond.code yX5_move cX5_move 7 (some .int), Cond.methodLink RX5 108 yX5_checkIsNotFixed, Cond.static yX5_checkIsNotFixed, Cond.code yX5_checkIsNotFixed cX5_checkIsNotFixed 1 none, Cond.methodLink RX5 111 yX4_isAtOrBelow, Cond.methodLink RX5 116 yX4_parentAt, Cond.methodLink RL 36 yX5_delete]
def wsL_refuses_r10 : List Cond := [Cond.instanceMethod yX5_delete, Cond.selects RX5 yX5_delete yX5_delete, Cond.code yX5_delete cX5_delete 4 (some .int), Cond.methodLink RX5 120 yX4_hasChild, Cond.instanceMethod yX4_hasChild, Cond.selects RX4 yX4_hasChild yX4_hasChild, Cond.code yX4_hasChild cX4_hasChild 3 (some .boolean), Cond.methodLink RL 40 yX5_carry, Cond.instanceMethod yX5_carry, Cond.selects RX5 yX5_carry yX5_carry, Cond.code yX5_carry cX5_carry 4 (some .boolean), Cond.methodLink RX5 129 yX4_knows, Cond.instanceMethod yX4_knows, Cond.selects RX4 yX4_knows yX4_knows, Cond.code yX4_knows cX4_knows 3 (some .boolean), Cond.methodLink RL 44 yX5_timeOf, Cond.instanceMethod yX5_timeOf, Cond.selects RX5 yX5_timeOf yX5_timeOf, Cond.code yX5_timeOf cX5_timeOf 2 (some .int), Cond.methodLink RX5 132 yX2_timeAt, Cond.methodLink RL 51 yX5_isThere, Cond.instanceMethod yX5_isThere, Cond.selects RX5 yX5_isThere yX5_isThere, Cond.code yX5_isThere cX5_isThere 3 (some .boolean)]
def wsL_refuses_r11 : List Cond := [Cond.methodLink RL 54 yX5_parentOf, Cond.instanceMethod yX5_parentOf, Cond.selects RX5 yX5_parentOf yX5_parentOf, Cond.code yX5_parentOf cX5_parentOf 4 (some .int), Cond.methodLink RL 57 yX5_labelOf, Cond.instanceMethod yX5_labelOf, Cond.selects RX5 yX5_labelOf yX5_labelOf, Cond.code yX5_labelOf cX5_labelOf 4 (some .int), Cond.methodLink RX5 138 yX4_labelAt, Cond.methodLink RL 60 yX5_value, Cond.instanceMethod yX5_value, Cond.selects RX5 yX5_value yX5_value, Cond.code yX5_value cX5_value 5 (some .int), Cond.methodLink RL 64 yX5_isWhole, Cond.instanceMethod yX5_isWhole, Cond.selects RX5 yX5_isWhole yX5_isWhole, Cond.code yX5_isWhole cX5_isWhole 4 (some .boolean), Cond.methodLink RX5 141 yX4_hasAllNeeded, Cond.instanceMethod yX4_hasAllNeeded, Cond.selects RX4 yX4_hasAllNeeded yX4_hasAllNeeded, Cond.code yX4_hasAllNeeded cX4_hasAllNeeded 4 (some .boolean), Cond.methodLink RX4 139 yX0_needs, Cond.instanceMethod yX0_needs, Cond.selects RX0 yX0_needs yX0_needs]
def wsL_refuses_r12 : List Cond := [Cond.code yX0_needs cX0_needs 3 (some .boolean), Cond.methodLink RL 67 yX5_find, Cond.instanceMethod yX5_find, Cond.selects RX5 yX5_find yX5_find, Cond.code yX5_find cX5_find 5 (some .int), Cond.methodLink RL 70 yX5_test, Cond.instanceMethod yX5_test, Cond.selects RX5 yX5_test yX5_test, Cond.code yX5_test cX5_test 4 (some .int), Cond.fieldLink RX5 45 "EntryMasters" "filters" "LEntryMasters$Filters;", Cond.methodLink RX5 159 yX5_checkRoomForFilter, Cond.instanceMethod yX5_checkRoomForFilter, Cond.selects RX5 yX5_checkRoomForFilter yX5_checkRoomForFilter, Cond.code yX5_checkRoomForFilter cX5_checkRoomForFilter 1 none, Cond.methodLink RX5 162 yX1_append, Cond.instanceMethod yX1_append, Cond.selects RX1 yX1_append yX1_append, Cond.initialized RX1, Cond.code yX1_append cX1_append 5 (some .int), Cond.fieldLink RX1 24 "EntryMasters$Filters" "count" "I", Cond.fieldLink RX1 9 "EntryMasters$Filters" "kinds" "[I", Cond.fieldLink RX1 15 "EntryMasters$Filters" "firsts" "[I", Cond.fieldLink RX1 18 "EntryMasters$Filters" "seconds" "[I", Cond.methodLink RL 73 yX5_join]
def wsL_refuses_r13 : List Cond := [Cond.instanceMethod yX5_join, Cond.selects RX5 yX5_join yX5_join, Cond.code yX5_join cX5_join 4 (some .int), Cond.methodLink RL 76 yX5_holds, Cond.instanceMethod yX5_holds, Cond.selects RX5 yX5_holds yX5_holds, Cond.code yX5_holds cX5_holds 5 (some .int), Cond.methodLink RX5 165 yX1_truthFor, Cond.instanceMethod yX1_truthFor, Cond.selects RX1 yX1_truthFor yX1_truthFor, Cond.code yX1_truthFor cX1_truthFor 8 (some .int), Cond.fieldLink RX1 21 "EntryMasters$Filters" "truths" "[I", Cond.methodLink RX1 32 yX1_truthOfTest, Cond.static yX1_truthOfTest, Cond.code yX1_truthOfTest cX1_truthOfTest 6 (some .int), Cond.methodLink RX1 44 yX4_mayHold, Cond.methodLink RX1 50 yX4_valueAt, Cond.methodLink RX1 40 yX1_truthOfJoin, Cond.static yX1_truthOfJoin, Cond.code yX1_truthOfJoin cX1_truthOfJoin 3 (some .int), Cond.methodLink RX1 54 yX1_both, Cond.static yX1_both, Cond.code yX1_both cX1_both 2 (some .int), Cond.methodLink RX1 57 yX1_opposite]
def wsL_refuses_r14 : List Cond := [Cond.static yX1_opposite, Cond.code yX1_opposite cX1_opposite 1 (some .int), Cond.methodLink RL 79 yX5_search, Cond.instanceMethod yX5_search, Cond.selects RX5 yX5_search yX5_search, Cond.code yX5_search cX5_search 11 (some .int), Cond.fieldLink RX5 38 "EntryMasters" "marks" "LEntryMasters$Marks;", Cond.methodLink RX5 174 yX4_childAfter, Cond.instanceMethod yX4_childAfter, Cond.selects RX4 yX4_childAfter yX4_childAfter, Cond.code yX4_childAfter cX4_childAfter 6 (some .int), Cond.methodLink RX4 158 yX3_isReferral, Cond.instanceMethod yX3_isReferral, Cond.selects RX3 yX3_isReferral yX3_isReferral, Cond.initialized RX3, Cond.code yX3_isReferral cX3_isReferral 2 (some .boolean), Cond.fieldLink RX3 15 "EntryMasters$Marks" "referrals" "[Z", Cond.methodLink RX4 163 yX4_orderUnderParent, Cond.instanceMethod yX4_orderUnderParent, Cond.selects RX4 yX4_orderUnderParent yX4_orderUnderParent, Cond.code yX4_orderUnderParent cX4_orderUnderParent 3 (some .int), Cond.methodLink RX5 178 yX5_isFound, Cond.instanceMethod yX5_isFound, Cond.selects RX5 yX5_isFound yX5_isFound]
def wsL_refuses_r15 : List Cond := [Cond.code yX5_isFound cX5_isFound 5 (some .boolean), Cond.methodLink RX5 186 yX3_rightThatCounts, Cond.instanceMethod yX3_rightThatCounts, Cond.selects RX3 yX3_rightThatCounts yX3_rightThatCounts, Cond.code yX3_rightThatCounts cX3_rightThatCounts 7 (some .int), Cond.fieldLink RX3 9 "EntryMasters$Marks" "rights" "[I", Cond.methodLink RX3 33 yX4_parentAt, Cond.methodLink RX5 182 yX5_nextInScope, Cond.instanceMethod yX5_nextInScope, Cond.selects RX5 yX5_nextInScope yX5_nextInScope, Cond.code yX5_nextInScope cX5_nextInScope 5 (some .int), Cond.methodLink RX5 189 yX4_orderUnderParent, Cond.methodLink RX5 192 yX4_entryAfter, Cond.instanceMethod yX4_entryAfter, Cond.selects RX4 yX4_entryAfter yX4_entryAfter, Cond.code yX4_entryAfter cX4_entryAfter 8 (some .int), Cond.methodLink RX4 166 yX4_childAfter, Cond.methodLink RL 102 yL_right, Cond.static yL_right, Cond.codeWith yL_right cL_right 5 (some .int) [(0, 8, 9, 13), (0, 8, 14, 15)], Cond.methodLink RL 19 yX5_setRight, Cond.instanceMethod yX5_setRight, Cond.selects RX5 yX5_setRight yX5_setRight, Cond.code yX5_setRight cX5_setRight 4 none]
def wsL_refuses_r16 : List Cond := [Cond.methodLink RX5 152 yX3_putRight, Cond.instanceMethod yX3_putRight, Cond.selects RX3 yX3_putRight yX3_putRight, Cond.code yX3_putRight cX3_putRight 4 none, Cond.methodLink RL 105 yL_refer, Cond.static yL_refer, Cond.codeWith yL_refer cL_refer 4 (some .int) [(0, 7, 8, 13)], Cond.methodLink RL 22 yX5_refer, Cond.instanceMethod yX5_refer, Cond.selects RX5 yX5_refer yX5_refer, Cond.code yX5_refer cX5_refer 3 none, Cond.methodLink RX5 155 yX3_putReferral, Cond.instanceMethod yX3_putReferral, Cond.selects RX3 yX3_putReferral yX3_putReferral, Cond.code yX3_putReferral cX3_putReferral 3 none, Cond.methodLink RL 108 yL_search, Cond.static yL_search, Cond.codeWith yL_search cL_search 8 (some .int) [(0, 13, 14, 13), (0, 13, 19, 15)]]
def wsL_refuses : List Cond := .code yL_refuses cL_refuses 21 (some .boolean) :: ((wsL_refuses_r1 ++ (wsL_refuses_r2 ++ (wsL_refuses_r3 ++ (wsL_refuses_r4 ++ (wsL_refuses_r5 ++ (wsL_refuses_r6 ++ (wsL_refuses_r7 ++ (wsL_refuses_r8 ++ (wsL_refuses_r9 ++ (wsL_refuses_r10 ++ (wsL_refuses_r11 ++ (wsL_refuses_r12 ++ (wsL_refuses_r13 ++ (wsL_refuses_r14 ++ (wsL_refuses_r15 ++ wsL_refuses_r16))))))))))))))) ++ wsX50 ++ wsX20 ++ wsX40 ++ wsX00 ++ wsX10 ++ wsX30 ++ (vx_atS RX5 173 "java/lang/IndexOutOfBoundsException" ["java/lang/RuntimeException", "java/lang/Exception"]).filter goodWord ++ (vx_atS RX5 65 "java/lang/IllegalStateException" ["java/lang/RuntimeException", "java/lang/Exception"]).filter goodWord ++ (vx_atS RX5 203 "java/lang/IllegalArgumentException" ["java/lang/RuntimeException", "java/lang/Exception"]).filter goodWord)
def wsL_at_r1 : List Cond := [Cond.methodLink RL 51 yX5_isThere, Cond.instanceMethod yX5_isThere, Cond.selects RX5 yX5_isThere yX5_isThere, Cond.initialized RX5, Cond.code yX5_isThere cX5_isThere 3 (some .boolean), Cond.methodLink RX5 71 yX5_treeOf, Cond.instanceMethod yX5_treeOf, Cond.selects RX5 yX5_treeOf yX5_treeOf, Cond.code yX5_treeOf cX5_treeOf 2 (some (.object "EntryMasters$Tree")), Cond.fieldLink RX5 28 "EntryMasters" "firstTree" "LEntryMasters$Tree;", Cond.fieldLink RX5 32 "EntryMasters" "secondTree" "LEntryMasters$Tree;", Cond.methodLink RX5 49 yX5_checkIndex, Cond.static yX5_checkIndex, Cond.code yX5_checkIndex cX5_checkIndex 2 none, Cond.classLink RX5 169 "java/lang/IndexOutOfBoundsException", Cond.initialized "java/lang/IndexOutOfBoundsException", Cond.methodLink RX5 135 yX4_has, Cond.instanceMethod yX4_has, Cond.selects RX4 yX4_has yX4_has, Cond.initialized RX4, Cond.code yX4_has cX4_has 2 (some .boolean), Cond.fieldLink RX4 15 "EntryMasters$Tree" "there" "[Z", Cond.methodLink RL 54 yX5_parentOf, Cond.instanceMethod yX5_parentOf]
def wsL_at_r2 : List Cond := [Cond.selects RX5 yX5_parentOf yX5_parentOf, Cond.code yX5_parentOf cX5_parentOf 4 (some .int), Cond.methodLink RX5 75 yX5_checkEntry, Cond.static yX5_checkEntry, Cond.code yX5_checkEntry cX5_checkEntry 2 none, Cond.methodLink RX5 116 yX4_parentAt, Cond.instanceMethod yX4_parentAt, Cond.selects RX4 yX4_parentAt yX4_parentAt, Cond.code yX4_parentAt cX4_parentAt 2 (some .int), Cond.fieldLink RX4 19 "EntryMasters$Tree" "parents" "[I", Cond.static yX5_at, Cond.code yX5_at cX5_at 2 (some .int), Cond.methodLink RL 57 yX5_labelOf, Cond.instanceMethod yX5_labelOf, Cond.selects RX5 yX5_labelOf yX5_labelOf, Cond.code yX5_labelOf cX5_labelOf 4 (some .int), Cond.methodLink RX5 138 yX4_labelAt, Cond.instanceMethod yX4_labelAt, Cond.selects RX4 yX4_labelAt yX4_labelAt, Cond.code yX4_labelAt cX4_labelAt 2 (some .int), Cond.fieldLink RX4 22 "EntryMasters$Tree" "labels" "[I"]
def wsL_at : List Cond := .code yL_at cL_at 5 (some .boolean) :: ((wsL_at_r1 ++ wsL_at_r2) ++ wsX50 ++ wsX40 ++ (vx_atS RX5 173 "java/lang/IndexOutOfBoundsException" ["java/lang/RuntimeException", "java/lang/Exception"]).filter goodWord)
def wsL_masters_r1 : List Cond := [Cond.classLink RL 8 RX5, Cond.instantiable RX5 6, Cond.initialized RX5, Cond.methodLink RL 111 yX5_init, Cond.instanceMethod yX5_init, Cond.code yX5_init cX5_init 1 none, Cond.methodLink RX5 3 objectInit, Cond.instanceMethod objectInit, Cond.code objectInit ⟨#[0xb1]⟩ 1 none, Cond.classLink RX5 9 RX0, Cond.instantiable RX0 2, Cond.initialized RX0, Cond.fieldLink RX5 12 "EntryMasters" "classes" "LEntryMasters$Classes;", Cond.classLink RX5 16 RX2, Cond.instantiable RX2 7, Cond.initialized RX2, Cond.fieldLink RX5 19 "EntryMasters" "log" "LEntryMasters$Log;", Cond.classLink RX5 23 RX4, Cond.instantiable RX4 11, Cond.initialized RX4, Cond.fieldLink RX5 28 "EntryMasters" "firstTree" "LEntryMasters$Tree;", Cond.fieldLink RX5 32 "EntryMasters" "secondTree" "LEntryMasters$Tree;", Cond.classLink RX5 35 RX3, Cond.instantiable RX3 2]
def wsL_masters_r2 : List Cond := [Cond.initialized RX3, Cond.fieldLink RX5 38 "EntryMasters" "marks" "LEntryMasters$Marks;", Cond.classLink RX5 42 RX1, Cond.instantiable RX1 5, Cond.initialized RX1, Cond.fieldLink RX5 45 "EntryMasters" "filters" "LEntryMasters$Filters;", Cond.methodLink RX5 11 yX0_init, Cond.instanceMethod yX0_init, Cond.code yX0_init cX0_init 1 none, Cond.methodLink RX0 3 objectInit, Cond.arrayClass .int, Cond.fieldLink RX0 9 "EntryMasters$Classes" "needed" "[I", Cond.fieldLink RX0 15 "EntryMasters$Classes" "allowed" "[I", Cond.methodLink RX0 18 yJ7_fill_53178, Cond.static yJ7_fill_53178, Cond.initialized RJ7, Cond.code yJ7_fill_53178 cJ7_fill_53178 4 none, Cond.instanceMethod yX2_init, Cond.code yX2_init cX2_init 1 none, Cond.methodLink RX2 3 objectInit, Cond.fieldLink RX2 9 "EntryMasters$Log" "kinds" "[I", Cond.fieldLink RX2 15 "EntryMasters$Log" "stamps" "[I", Cond.fieldLink RX2 18 "EntryMasters$Log" "entries" "[I", Cond.fieldLink RX2 21 "EntryMasters$Log" "targets" "[I"]
def wsL_masters_r3 : List Cond := [Cond.fieldLink RX2 24 "EntryMasters$Log" "contents" "[I", Cond.fieldLink RX2 27 "EntryMasters$Log" "classesOfAdded" "[I", Cond.methodLink RX5 25 yX4_init, Cond.instanceMethod yX4_init, Cond.code yX4_init cX4_init 4 none, Cond.methodLink RX4 3 objectInit, Cond.fieldLink RX4 9 "EntryMasters$Tree" "known" "[I", Cond.arrayClass .boolean, Cond.fieldLink RX4 15 "EntryMasters$Tree" "there" "[Z", Cond.fieldLink RX4 19 "EntryMasters$Tree" "parents" "[I", Cond.fieldLink RX4 22 "EntryMasters$Tree" "labels" "[I", Cond.fieldLink RX4 25 "EntryMasters$Tree" "classesOfEntries" "[I", Cond.fieldLink RX4 28 "EntryMasters$Tree" "values" "[I", Cond.fieldLink RX4 31 "EntryMasters$Tree" "master" "I", Cond.fieldLink RX4 35 "EntryMasters$Tree" "log" "LEntryMasters$Log;", Cond.fieldLink RX4 39 "EntryMasters$Tree" "classes" "LEntryMasters$Classes;", Cond.methodLink RX4 43 yX4_clear, Cond.instanceMethod yX4_clear, Cond.selects RX4 yX4_clear yX4_clear, Cond.code yX4_clear cX4_clear 2 none, Cond.fieldLink RX4 52 "EntryMasters$Tree" "size" "I", Cond.methodLink RX4 46 yJ7_fill_53178, Cond.methodLink RX5 37 yX3_init, Cond.instanceMethod yX3_init]
def wsL_masters_r4 : List Cond := [Cond.code yX3_init cX3_init 1 none, Cond.methodLink RX3 3 objectInit, Cond.fieldLink RX3 9 "EntryMasters$Marks" "rights" "[I", Cond.fieldLink RX3 15 "EntryMasters$Marks" "referrals" "[Z", Cond.methodLink RX3 19 yJ7_fill_53178, Cond.instanceMethod yX1_init, Cond.code yX1_init cX1_init 1 none, Cond.methodLink RX1 3 objectInit, Cond.fieldLink RX1 9 "EntryMasters$Filters" "kinds" "[I", Cond.fieldLink RX1 15 "EntryMasters$Filters" "firsts" "[I", Cond.fieldLink RX1 18 "EntryMasters$Filters" "seconds" "[I", Cond.fieldLink RX1 21 "EntryMasters$Filters" "truths" "[I", Cond.methodLink RL 83 yX5_changes, Cond.instanceMethod yX5_changes, Cond.selects RX5 yX5_changes yX5_changes, Cond.code yX5_changes cX5_changes 1 (some .int), Cond.methodLink RL 48 yX5_entries, Cond.instanceMethod yX5_entries, Cond.selects RX5 yX5_entries yX5_entries, Cond.code yX5_entries cX5_entries 2 (some .int), Cond.methodLink RX5 71 yX5_treeOf, Cond.instanceMethod yX5_treeOf, Cond.selects RX5 yX5_treeOf yX5_treeOf, Cond.code yX5_treeOf cX5_treeOf 2 (some (.object "EntryMasters$Tree"))]
def wsL_masters_r5 : List Cond := [Cond.methodLink RX5 49 yX5_checkIndex, Cond.static yX5_checkIndex, Cond.code yX5_checkIndex cX5_checkIndex 2 none, Cond.classLink RX5 169 "java/lang/IndexOutOfBoundsException", Cond.initialized "java/lang/IndexOutOfBoundsException", Cond.methodLink RL 87 yX5_areAlike, Cond.instanceMethod yX5_areAlike, Cond.selects RX5 yX5_areAlike yX5_areAlike, Cond.code yX5_areAlike cX5_areAlike 1 (some .boolean), Cond.methodLink RX5 148 yX4_isSameAs, Cond.instanceMethod yX4_isSameAs, Cond.selects RX4 yX4_isSameAs yX4_isSameAs, Cond.code yX4_isSameAs cX4_isSameAs 3 (some .boolean), Cond.methodLink RX4 151 yX4_hasSameEntry, Cond.instanceMethod yX4_hasSameEntry, Cond.selects RX4 yX4_hasSameEntry yX4_hasSameEntry, Cond.code yX4_hasSameEntry cX4_hasSameEntry 4 (some .boolean), Cond.methodLink RX4 142 yX4_valueAt, Cond.instanceMethod yX4_valueAt, Cond.selects RX4 yX4_valueAt yX4_valueAt, Cond.code yX4_valueAt cX4_valueAt 3 (some .int), Cond.static yX5_at, Cond.code yX5_at cX5_at 2 (some .int), Cond.methodLink RX4 145 yX4_parentAt]
def wsL_masters_r6 : List Cond := [Cond.instanceMethod yX4_parentAt, Cond.selects RX4 yX4_parentAt yX4_parentAt, Cond.code yX4_parentAt cX4_parentAt 2 (some .int), Cond.methodLink RX4 155 yX4_labelAt, Cond.instanceMethod yX4_labelAt, Cond.selects RX4 yX4_labelAt yX4_labelAt, Cond.code yX4_labelAt cX4_labelAt 2 (some .int), Cond.methodLink RL 112 yL_at, Cond.static yL_at, Cond.initialized RL, Cond.code yL_at cL_at 5 (some .boolean), Cond.methodLink RL 51 yX5_isThere, Cond.instanceMethod yX5_isThere, Cond.selects RX5 yX5_isThere yX5_isThere, Cond.code yX5_isThere cX5_isThere 3 (some .boolean), Cond.methodLink RX5 135 yX4_has, Cond.instanceMethod yX4_has, Cond.selects RX4 yX4_has yX4_has, Cond.code yX4_has cX4_has 2 (some .boolean), Cond.methodLink RL 54 yX5_parentOf, Cond.instanceMethod yX5_parentOf, Cond.selects RX5 yX5_parentOf yX5_parentOf, Cond.code yX5_parentOf cX5_parentOf 4 (some .int), Cond.methodLink RX5 75 yX5_checkEntry]
def wsL_masters_r7 : List Cond := [Cond.static yX5_checkEntry, Cond.code yX5_checkEntry cX5_checkEntry 2 none, Cond.methodLink RX5 116 yX4_parentAt, Cond.methodLink RL 57 yX5_labelOf, Cond.instanceMethod yX5_labelOf, Cond.selects RX5 yX5_labelOf yX5_labelOf, Cond.code yX5_labelOf cX5_labelOf 4 (some .int), Cond.methodLink RX5 138 yX4_labelAt, Cond.methodLink RL 67 yX5_find, Cond.instanceMethod yX5_find, Cond.selects RX5 yX5_find yX5_find, Cond.code yX5_find cX5_find 5 (some .int), Cond.methodLink RX5 53 yX5_checkArgument, Cond.static yX5_checkArgument, Cond.code yX5_checkArgument cX5_checkArgument 3 none, Cond.classLink RX5 199 "java/lang/IllegalArgumentException", Cond.initialized "java/lang/IllegalArgumentException", Cond.methodLink RX5 144 yX4_childWithLabelLike, Cond.instanceMethod yX4_childWithLabelLike, Cond.selects RX4 yX4_childWithLabelLike yX4_childWithLabelLike, Cond.code yX4_childWithLabelLike cX4_childWithLabelLike 5 (some .int), Cond.methodLink RX4 148 yX4_areLike, Cond.static yX4_areLike, Cond.code yX4_areLike cX4_areLike 2 (some .boolean)]
def wsL_masters_r8 : List Cond := [Cond.methodLink RL 116 yL_refuses, Cond.static yL_refuses, Cond.code yL_refuses cL_refuses 21 (some .boolean), Cond.constant RL 91 (2147483647), Cond.methodLink RL 92 yL_kind, Cond.static yL_kind, Cond.codeWith yL_kind cL_kind 5 (some .int) [(0, 8, 9, 13), (0, 8, 14, 15), (0, 8, 19, 17)], Cond.classLink RL 13 "java/lang/IndexOutOfBoundsException", Cond.classLink RL 15 "java/lang/IllegalArgumentException", Cond.classLink RL 17 "java/lang/IllegalStateException", Cond.methodLink RL 7 yX5_setClass, Cond.instanceMethod yX5_setClass, Cond.selects RX5 yX5_setClass yX5_setClass, Cond.code yX5_setClass cX5_setClass 4 none, Cond.classLink RX5 61 "java/lang/IllegalStateException", Cond.initialized "java/lang/IllegalStateException", Cond.methodLink RX5 68 yX0_define, Cond.instanceMethod yX0_define, Cond.selects RX0 yX0_define yX0_define, Cond.code yX0_define cX0_define 4 none, Cond.static yX5_put, Cond.code yX5_put cX5_put 3 none, Cond.methodLink RL 98 yL_act, Cond.static yL_act]
def wsL_masters_r9 : List Cond := [Cond.codeWith yL_act cL_act 7 (some .int) [(0, 289, 290, 13), (0, 289, 295, 15), (0, 289, 300, 17)], Cond.methodLink RL 26 yX5_add, Cond.instanceMethod yX5_add, Cond.selects RX5 yX5_add yX5_add, Cond.code yX5_add cX5_add 7 (some .int), Cond.methodLink RX5 79 yX5_checkRoomForChange, Cond.instanceMethod yX5_checkRoomForChange, Cond.selects RX5 yX5_checkRoomForChange yX5_checkRoomForChange, Cond.code yX5_checkRoomForChange cX5_checkRoomForChange 1 none, Cond.methodLink RX5 82 yX5_checkLabelIsFree, Cond.static yX5_checkLabelIsFree, Cond.code yX5_checkLabelIsFree cX5_checkLabelIsFree 4 none, Cond.methodLink RX5 86 yX4_stampOfNext, Cond.instanceMethod yX4_stampOfNext, Cond.selects RX4 yX4_stampOfNext yX4_stampOfNext, Cond.code yX4_stampOfNext cX4_stampOfNext 2 (some .int), Cond.fieldLink RX4 55 "EntryMasters$Tree" "knownCount" "I", Cond.methodLink RX4 62 yX2_timeAt, Cond.instanceMethod yX2_timeAt, Cond.selects RX2 yX2_timeAt yX2_timeAt, Cond.code yX2_timeAt cX2_timeAt 2 (some .int), Cond.methodLink RX4 68 yX2_stampFrom, Cond.static yX2_stampFrom, Cond.code yX2_stampFrom cX2_stampFrom 2 (some .int)]
def wsL_masters_r10 : List Cond := [Cond.methodLink RX5 90 yX2_append, Cond.instanceMethod yX2_append, Cond.selects RX2 yX2_append yX2_append, Cond.code yX2_append cX2_append 8 (some .int), Cond.fieldLink RX2 30 "EntryMasters$Log" "count" "I", Cond.methodLink RX5 94 yX4_learn, Cond.instanceMethod yX4_learn, Cond.selects RX4 yX4_learn yX4_learn, Cond.code yX4_learn cX4_learn 3 none, Cond.methodLink RX4 72 yX4_putInOrder, Cond.instanceMethod yX4_putInOrder, Cond.selects RX4 yX4_putInOrder yX4_putInOrder, Cond.code yX4_putInOrder cX4_putInOrder 3 (some .int), Cond.methodLink RX4 79 yX2_stampAt, Cond.instanceMethod yX2_stampAt, Cond.selects RX2 yX2_stampAt yX2_stampAt, Cond.code yX2_stampAt cX2_stampAt 2 (some .int), Cond.methodLink RX4 75 yX4_perform, Cond.instanceMethod yX4_perform, Cond.selects RX4 yX4_perform yX4_perform, Cond.code yX4_perform cX4_perform 5 none, Cond.methodLink RX4 101 yX4_performAdding, Cond.instanceMethod yX4_performAdding, Cond.selects RX4 yX4_performAdding yX4_performAdding]
def wsL_masters_r11 : List Cond := [Cond.code yX4_performAdding cX4_performAdding 5 none, Cond.methodLink RX4 115 yX4_settle, Cond.instanceMethod yX4_settle, Cond.selects RX4 yX4_settle yX4_settle, Cond.code yX4_settle cX4_settle 4 none, Cond.methodLink RX4 119 yX4_has, Cond.methodLink RX4 130 yX4_childWithLabelLike, Cond.methodLink RX4 105 yX4_performSetting, Cond.instanceMethod yX4_performSetting, Cond.selects RX4 yX4_performSetting yX4_performSetting, Cond.code yX4_performSetting cX4_performSetting 4 none, Cond.methodLink RX4 123 yX4_mayHold, Cond.instanceMethod yX4_mayHold, Cond.selects RX4 yX4_mayHold yX4_mayHold, Cond.code yX4_mayHold cX4_mayHold 3 (some .boolean), Cond.methodLink RX4 134 yX0_allows, Cond.instanceMethod yX0_allows, Cond.selects RX0 yX0_allows yX0_allows, Cond.code yX0_allows cX0_allows 3 (some .boolean), Cond.methodLink RX0 28 yX0_hasBit, Cond.static yX0_hasBit, Cond.code yX0_hasBit cX0_hasBit 2 (some .boolean), Cond.methodLink RX4 109 yX4_performMoving, Cond.instanceMethod yX4_performMoving]
def wsL_masters_r12 : List Cond := [Cond.selects RX4 yX4_performMoving yX4_performMoving, Cond.code yX4_performMoving cX4_performMoving 4 none, Cond.methodLink RX4 127 yX4_isAtOrBelow, Cond.instanceMethod yX4_isAtOrBelow, Cond.selects RX4 yX4_isAtOrBelow yX4_isAtOrBelow, Cond.code yX4_isAtOrBelow cX4_isAtOrBelow 5 (some .boolean), Cond.methodLink RX4 112 yX4_performDeleting, Cond.instanceMethod yX4_performDeleting, Cond.selects RX4 yX4_performDeleting yX4_performDeleting, Cond.code yX4_performDeleting cX4_performDeleting 3 none, Cond.methodLink RL 30 yX5_set, Cond.instanceMethod yX5_set, Cond.selects RX5 yX5_set yX5_set, Cond.code yX5_set cX5_set 7 (some .int), Cond.methodLink RX5 98 yX4_mayHold, Cond.methodLink RX5 104 yX4_valueAt, Cond.methodLink RL 33 yX5_move, Cond.instanceMethod yX5_move, Cond.selects RX5 yX5_move yX5_move, Cond.code yX5_move cX5_move 7 (some .int), Cond.methodLink RX5 108 yX5_checkIsNotFixed, Cond.static yX5_checkIsNotFixed, Cond.code yX5_checkIsNotFixed cX5_checkIsNotFixed 1 none, Cond.methodLink RX5 111 yX4_isAtOrBelow]
def wsL_masters_r13 : List Cond := [Cond.methodLink RL 36 yX5_delete, Cond.instanceMethod yX5_delete, Cond.selects RX5 yX5_delete yX5_delete, Cond.code yX5_delete cX5_delete 4 (some .int), Cond.methodLink RX5 120 yX4_hasChild, Cond.instanceMethod yX4_hasChild, Cond.selects RX4 yX4_hasChild yX4_hasChild, Cond.code yX4_hasChild cX4_hasChild 3 (some .boolean), Cond.methodLink RL 40 yX5_carry, Cond.instanceMethod yX5_carry, Cond.selects RX5 yX5_carry yX5_carry, Cond.code yX5_carry cX5_carry 4 (some .boolean), Cond.methodLink RX5 129 yX4_knows, Cond.instanceMethod yX4_knows, Cond.selects RX4 yX4_knows yX4_knows, Cond.code yX4_knows cX4_knows 3 (some .boolean), Cond.methodLink RL 44 yX5_timeOf, Cond.instanceMethod yX5_timeOf, Cond.selects RX5 yX5_timeOf yX5_timeOf, Cond.code yX5_timeOf cX5_timeOf 2 (some .int), Cond.methodLink RX5 132 yX2_timeAt, Cond.methodLink RL 60 yX5_value, Cond.instanceMethod yX5_value, Cond.selects RX5 yX5_value yX5_value]
def wsL_masters_r14 : List Cond := [Cond.code yX5_value cX5_value 5 (some .int), Cond.methodLink RL 64 yX5_isWhole, Cond.instanceMethod yX5_isWhole, Cond.selects RX5 yX5_isWhole yX5_isWhole, Cond.code yX5_isWhole cX5_isWhole 4 (some .boolean), Cond.methodLink RX5 141 yX4_hasAllNeeded, Cond.instanceMethod yX4_hasAllNeeded, Cond.selects RX4 yX4_hasAllNeeded yX4_hasAllNeeded, Cond.code yX4_hasAllNeeded cX4_hasAllNeeded 4 (some .boolean), Cond.methodLink RX4 139 yX0_needs, Cond.instanceMethod yX0_needs, Cond.selects RX0 yX0_needs yX0_needs, Cond.code yX0_needs cX0_needs 3 (some .boolean), Cond.methodLink RL 70 yX5_test, Cond.instanceMethod yX5_test, Cond.selects RX5 yX5_test yX5_test, Cond.code yX5_test cX5_test 4 (some .int), Cond.methodLink RX5 159 yX5_checkRoomForFilter, Cond.instanceMethod yX5_checkRoomForFilter, Cond.selects RX5 yX5_checkRoomForFilter yX5_checkRoomForFilter, Cond.code yX5_checkRoomForFilter cX5_checkRoomForFilter 1 none, Cond.methodLink RX5 162 yX1_append, Cond.instanceMethod yX1_append, Cond.selects RX1 yX1_append yX1_append]
def wsL_masters_r15 : List Cond := [Cond.code yX1_append cX1_append 5 (some .int), Cond.fieldLink RX1 24 "EntryMasters$Filters" "count" "I", Cond.methodLink RL 73 yX5_join, Cond.instanceMethod yX5_join, Cond.selects RX5 yX5_join yX5_join, Cond.code yX5_join cX5_join 4 (some .int), Cond.methodLink RL 76 yX5_holds, Cond.instanceMethod yX5_holds, Cond.selects RX5 yX5_holds yX5_holds, Cond.code yX5_holds cX5_holds 5 (some .int), Cond.methodLink RX5 165 yX1_truthFor, Cond.instanceMethod yX1_truthFor, Cond.selects RX1 yX1_truthFor yX1_truthFor, Cond.code yX1_truthFor cX1_truthFor 8 (some .int), Cond.methodLink RX1 32 yX1_truthOfTest, Cond.static yX1_truthOfTest, Cond.code yX1_truthOfTest cX1_truthOfTest 6 (some .int), Cond.methodLink RX1 44 yX4_mayHold, Cond.methodLink RX1 50 yX4_valueAt, Cond.methodLink RX1 40 yX1_truthOfJoin, Cond.static yX1_truthOfJoin, Cond.code yX1_truthOfJoin cX1_truthOfJoin 3 (some .int), Cond.methodLink RX1 54 yX1_both, Cond.static yX1_both]
def wsL_masters_r16 : List Cond := [Cond.code yX1_both cX1_both 2 (some .int), Cond.methodLink RX1 57 yX1_opposite, Cond.static yX1_opposite, Cond.code yX1_opposite cX1_opposite 1 (some .int), Cond.methodLink RL 79 yX5_search, Cond.instanceMethod yX5_search, Cond.selects RX5 yX5_search yX5_search, Cond.code yX5_search cX5_search 11 (some .int), Cond.methodLink RX5 174 yX4_childAfter, Cond.instanceMethod yX4_childAfter, Cond.selects RX4 yX4_childAfter yX4_childAfter, Cond.code yX4_childAfter cX4_childAfter 6 (some .int), Cond.methodLink RX4 158 yX3_isReferral, Cond.instanceMethod yX3_isReferral, Cond.selects RX3 yX3_isReferral yX3_isReferral, Cond.code yX3_isReferral cX3_isReferral 2 (some .boolean), Cond.methodLink RX4 163 yX4_orderUnderParent, Cond.instanceMethod yX4_orderUnderParent, Cond.selects RX4 yX4_orderUnderParent yX4_orderUnderParent, Cond.code yX4_orderUnderParent cX4_orderUnderParent 3 (some .int), Cond.methodLink RX5 178 yX5_isFound, Cond.instanceMethod yX5_isFound, Cond.selects RX5 yX5_isFound yX5_isFound, Cond.code yX5_isFound cX5_isFound 5 (some .boolean)]
def wsL_masters_r17 : List Cond := [Cond.methodLink RX5 186 yX3_rightThatCounts, Cond.instanceMethod yX3_rightThatCounts, Cond.selects RX3 yX3_rightThatCounts yX3_rightThatCounts, Cond.code yX3_rightThatCounts cX3_rightThatCounts 7 (some .int), Cond.methodLink RX3 33 yX4_parentAt, Cond.methodLink RX5 182 yX5_nextInScope, Cond.instanceMethod yX5_nextInScope, Cond.selects RX5 yX5_nextInScope yX5_nextInScope, Cond.code yX5_nextInScope cX5_nextInScope 5 (some .int), Cond.methodLink RX5 189 yX4_orderUnderParent, Cond.methodLink RX5 192 yX4_entryAfter, Cond.instanceMethod yX4_entryAfter, Cond.selects RX4 yX4_entryAfter yX4_entryAfter, Cond.code yX4_entryAfter cX4_entryAfter 8 (some .int), Cond.methodLink RX4 166 yX4_childAfter, Cond.methodLink RL 102 yL_right, Cond.static yL_right, Cond.codeWith yL_right cL_right 5 (some .int) [(0, 8, 9, 13), (0, 8, 14, 15)], Cond.methodLink RL 19 yX5_setRight, Cond.instanceMethod yX5_setRight, Cond.selects RX5 yX5_setRight yX5_setRight, Cond.code yX5_setRight cX5_setRight 4 none, Cond.methodLink RX5 152 yX3_putRight, Cond.instanceMethod yX3_putRight]
def wsL_masters_r18 : List Cond := [Cond.selects RX3 yX3_putRight yX3_putRight, Cond.code yX3_putRight cX3_putRight 4 none, Cond.methodLink RL 105 yL_refer, Cond.static yL_refer, Cond.codeWith yL_refer cL_refer 4 (some .int) [(0, 7, 8, 13)], Cond.methodLink RL 22 yX5_refer, Cond.instanceMethod yX5_refer, Cond.selects RX5 yX5_refer yX5_refer, Cond.code yX5_refer cX5_refer 3 none, Cond.methodLink RX5 155 yX3_putReferral, Cond.instanceMethod yX3_putReferral, Cond.selects RX3 yX3_putReferral yX3_putReferral, Cond.code yX3_putReferral cX3_putReferral 3 none, Cond.methodLink RL 108 yL_search, Cond.static yL_search, Cond.codeWith yL_search cL_search 8 (some .int) [(0, 13, 14, 13), (0, 13, 19, 15)]]
def wsL_masters : List Cond := .code yL_masters cL_masters 1 (some .boolean) :: ((wsL_masters_r1 ++ (wsL_masters_r2 ++ (wsL_masters_r3 ++ (wsL_masters_r4 ++ (wsL_masters_r5 ++ (wsL_masters_r6 ++ (wsL_masters_r7 ++ (wsL_masters_r8 ++ (wsL_masters_r9 ++ (wsL_masters_r10 ++ (wsL_masters_r11 ++ (wsL_masters_r12 ++ (wsL_masters_r13 ++ (wsL_masters_r14 ++ (wsL_masters_r15 ++ (wsL_masters_r16 ++ (wsL_masters_r17 ++ wsL_masters_r18))))))))))))))))) ++ wsX50 ++ wsX00 ++ wsX20 ++ wsX40 ++ wsX30 ++ wsX10 ++ (vx_atS RX5 173 "java/lang/IndexOutOfBoundsException" ["java/lang/RuntimeException", "java/lang/Exception"]).filter goodWord ++ (vx_atS RX5 203 "java/lang/IllegalArgumentException" ["java/lang/RuntimeException", "java/lang/Exception"]).filter goodWord ++ (vx_atS RX5 65 "java/lang/IllegalStateException" ["java/lang/RuntimeException", "java/lang/Exception"]).filter goodWord)
def wsL_finds_r1 : List Cond := [Cond.methodLink RL 79 yX5_search, Cond.instanceMethod yX5_search, Cond.selects RX5 yX5_search yX5_search, Cond.initialized RX5, Cond.code yX5_search cX5_search 11 (some .int), Cond.classLink RX5 169 "java/lang/IndexOutOfBoundsException", Cond.initialized "java/lang/IndexOutOfBoundsException", Cond.fieldLink RX5 45 "EntryMasters" "filters" "LEntryMasters$Filters;", Cond.fieldLink RX5 38 "EntryMasters" "marks" "LEntryMasters$Marks;", Cond.methodLink RX5 71 yX5_treeOf, Cond.instanceMethod yX5_treeOf, Cond.selects RX5 yX5_treeOf yX5_treeOf, Cond.code yX5_treeOf cX5_treeOf 2 (some (.object "EntryMasters$Tree")), Cond.fieldLink RX5 28 "EntryMasters" "firstTree" "LEntryMasters$Tree;", Cond.fieldLink RX5 32 "EntryMasters" "secondTree" "LEntryMasters$Tree;", Cond.methodLink RX5 49 yX5_checkIndex, Cond.static yX5_checkIndex, Cond.code yX5_checkIndex cX5_checkIndex 2 none, Cond.methodLink RX5 75 yX5_checkEntry, Cond.static yX5_checkEntry, Cond.code yX5_checkEntry cX5_checkEntry 2 none, Cond.methodLink RX5 135 yX4_has, Cond.instanceMethod yX4_has, Cond.selects RX4 yX4_has yX4_has]
def wsL_finds_r2 : List Cond := [Cond.initialized RX4, Cond.code yX4_has cX4_has 2 (some .boolean), Cond.fieldLink RX4 15 "EntryMasters$Tree" "there" "[Z", Cond.methodLink RX5 53 yX5_checkArgument, Cond.static yX5_checkArgument, Cond.code yX5_checkArgument cX5_checkArgument 3 none, Cond.classLink RX5 199 "java/lang/IllegalArgumentException", Cond.initialized "java/lang/IllegalArgumentException", Cond.methodLink RX5 174 yX4_childAfter, Cond.instanceMethod yX4_childAfter, Cond.selects RX4 yX4_childAfter yX4_childAfter, Cond.code yX4_childAfter cX4_childAfter 6 (some .int), Cond.fieldLink RX4 19 "EntryMasters$Tree" "parents" "[I", Cond.methodLink RX4 158 yX3_isReferral, Cond.instanceMethod yX3_isReferral, Cond.selects RX3 yX3_isReferral yX3_isReferral, Cond.initialized RX3, Cond.code yX3_isReferral cX3_isReferral 2 (some .boolean), Cond.fieldLink RX3 15 "EntryMasters$Marks" "referrals" "[Z", Cond.methodLink RX4 163 yX4_orderUnderParent, Cond.instanceMethod yX4_orderUnderParent, Cond.selects RX4 yX4_orderUnderParent yX4_orderUnderParent, Cond.code yX4_orderUnderParent cX4_orderUnderParent 3 (some .int), Cond.methodLink RX4 155 yX4_labelAt]
def wsL_finds_r3 : List Cond := [Cond.instanceMethod yX4_labelAt, Cond.selects RX4 yX4_labelAt yX4_labelAt, Cond.code yX4_labelAt cX4_labelAt 2 (some .int), Cond.fieldLink RX4 22 "EntryMasters$Tree" "labels" "[I", Cond.static yX5_at, Cond.code yX5_at cX5_at 2 (some .int), Cond.methodLink RX5 178 yX5_isFound, Cond.instanceMethod yX5_isFound, Cond.selects RX5 yX5_isFound yX5_isFound, Cond.code yX5_isFound cX5_isFound 5 (some .boolean), Cond.methodLink RX5 165 yX1_truthFor, Cond.instanceMethod yX1_truthFor, Cond.selects RX1 yX1_truthFor yX1_truthFor, Cond.initialized RX1, Cond.code yX1_truthFor cX1_truthFor 8 (some .int), Cond.fieldLink RX1 9 "EntryMasters$Filters" "kinds" "[I", Cond.fieldLink RX1 15 "EntryMasters$Filters" "firsts" "[I", Cond.fieldLink RX1 18 "EntryMasters$Filters" "seconds" "[I", Cond.fieldLink RX1 21 "EntryMasters$Filters" "truths" "[I", Cond.methodLink RX1 32 yX1_truthOfTest, Cond.static yX1_truthOfTest, Cond.code yX1_truthOfTest cX1_truthOfTest 6 (some .int), Cond.methodLink RX1 44 yX4_mayHold, Cond.instanceMethod yX4_mayHold]
def wsL_finds_r4 : List Cond := [Cond.selects RX4 yX4_mayHold yX4_mayHold, Cond.code yX4_mayHold cX4_mayHold 3 (some .boolean), Cond.fieldLink RX4 39 "EntryMasters$Tree" "classes" "LEntryMasters$Classes;", Cond.fieldLink RX4 25 "EntryMasters$Tree" "classesOfEntries" "[I", Cond.methodLink RX4 134 yX0_allows, Cond.instanceMethod yX0_allows, Cond.selects RX0 yX0_allows yX0_allows, Cond.initialized RX0, Cond.code yX0_allows cX0_allows 3 (some .boolean), Cond.fieldLink RX0 15 "EntryMasters$Classes" "allowed" "[I", Cond.methodLink RX0 28 yX0_hasBit, Cond.static yX0_hasBit, Cond.code yX0_hasBit cX0_hasBit 2 (some .boolean), Cond.methodLink RX1 50 yX4_valueAt, Cond.instanceMethod yX4_valueAt, Cond.selects RX4 yX4_valueAt yX4_valueAt, Cond.code yX4_valueAt cX4_valueAt 3 (some .int), Cond.fieldLink RX4 28 "EntryMasters$Tree" "values" "[I", Cond.methodLink RX1 40 yX1_truthOfJoin, Cond.static yX1_truthOfJoin, Cond.code yX1_truthOfJoin cX1_truthOfJoin 3 (some .int), Cond.methodLink RX1 54 yX1_both, Cond.static yX1_both, Cond.code yX1_both cX1_both 2 (some .int)]
def wsL_finds_r5 : List Cond := [Cond.methodLink RX1 57 yX1_opposite, Cond.static yX1_opposite, Cond.code yX1_opposite cX1_opposite 1 (some .int), Cond.methodLink RX5 186 yX3_rightThatCounts, Cond.instanceMethod yX3_rightThatCounts, Cond.selects RX3 yX3_rightThatCounts yX3_rightThatCounts, Cond.code yX3_rightThatCounts cX3_rightThatCounts 7 (some .int), Cond.fieldLink RX3 9 "EntryMasters$Marks" "rights" "[I", Cond.methodLink RX3 33 yX4_parentAt, Cond.instanceMethod yX4_parentAt, Cond.selects RX4 yX4_parentAt yX4_parentAt, Cond.code yX4_parentAt cX4_parentAt 2 (some .int), Cond.methodLink RX5 182 yX5_nextInScope, Cond.instanceMethod yX5_nextInScope, Cond.selects RX5 yX5_nextInScope yX5_nextInScope, Cond.code yX5_nextInScope cX5_nextInScope 5 (some .int), Cond.methodLink RX5 189 yX4_orderUnderParent, Cond.methodLink RX5 192 yX4_entryAfter, Cond.instanceMethod yX4_entryAfter, Cond.selects RX4 yX4_entryAfter yX4_entryAfter, Cond.code yX4_entryAfter cX4_entryAfter 8 (some .int), Cond.methodLink RX4 166 yX4_childAfter, Cond.methodLink RX4 145 yX4_parentAt]
def wsL_finds : List Cond := .code yL_finds cL_finds 10 (some .boolean) :: ((wsL_finds_r1 ++ (wsL_finds_r2 ++ (wsL_finds_r3 ++ (wsL_finds_r4 ++ wsL_finds_r5)))) ++ wsX50 ++ wsX10 ++ wsX40 ++ wsX30 ++ wsX00 ++ (vx_atS RX5 173 "java/lang/IndexOutOfBoundsException" ["java/lang/RuntimeException", "java/lang/Exception"]).filter goodWord ++ (vx_atS RX5 203 "java/lang/IllegalArgumentException" ["java/lang/RuntimeException", "java/lang/Exception"]).filter goodWord)
def wsL_searches_r1 : List Cond := [Cond.classLink RL 8 RX5, Cond.instantiable RX5 6, Cond.initialized RX5, Cond.methodLink RL 111 yX5_init, Cond.instanceMethod yX5_init, Cond.code yX5_init cX5_init 1 none, Cond.methodLink RX5 3 objectInit, Cond.instanceMethod objectInit, Cond.code objectInit ⟨#[0xb1]⟩ 1 none, Cond.classLink RX5 9 RX0, Cond.instantiable RX0 2, Cond.initialized RX0, Cond.fieldLink RX5 12 "EntryMasters" "classes" "LEntryMasters$Classes;", Cond.classLink RX5 16 RX2, Cond.instantiable RX2 7, Cond.initialized RX2, Cond.fieldLink RX5 19 "EntryMasters" "log" "LEntryMasters$Log;", Cond.classLink RX5 23 RX4, Cond.instantiable RX4 11, Cond.initialized RX4, Cond.fieldLink RX5 28 "EntryMasters" "firstTree" "LEntryMasters$Tree;", Cond.fieldLink RX5 32 "EntryMasters" "secondTree" "LEntryMasters$Tree;", Cond.classLink RX5 35 RX3, Cond.instantiable RX3 2]
def wsL_searches_r2 : List Cond := [Cond.initialized RX3, Cond.fieldLink RX5 38 "EntryMasters" "marks" "LEntryMasters$Marks;", Cond.classLink RX5 42 RX1, Cond.instantiable RX1 5, Cond.initialized RX1, Cond.fieldLink RX5 45 "EntryMasters" "filters" "LEntryMasters$Filters;", Cond.methodLink RX5 11 yX0_init, Cond.instanceMethod yX0_init, Cond.code yX0_init cX0_init 1 none, Cond.methodLink RX0 3 objectInit, Cond.arrayClass .int, Cond.fieldLink RX0 9 "EntryMasters$Classes" "needed" "[I", Cond.fieldLink RX0 15 "EntryMasters$Classes" "allowed" "[I", Cond.methodLink RX0 18 yJ7_fill_53178, Cond.static yJ7_fill_53178, Cond.initialized RJ7, Cond.code yJ7_fill_53178 cJ7_fill_53178 4 none, Cond.instanceMethod yX2_init, Cond.code yX2_init cX2_init 1 none, Cond.methodLink RX2 3 objectInit, Cond.fieldLink RX2 9 "EntryMasters$Log" "kinds" "[I", Cond.fieldLink RX2 15 "EntryMasters$Log" "stamps" "[I", Cond.fieldLink RX2 18 "EntryMasters$Log" "entries" "[I", Cond.fieldLink RX2 21 "EntryMasters$Log" "targets" "[I"]
def wsL_searches_r3 : List Cond := [Cond.fieldLink RX2 24 "EntryMasters$Log" "contents" "[I", Cond.fieldLink RX2 27 "EntryMasters$Log" "classesOfAdded" "[I", Cond.methodLink RX5 25 yX4_init, Cond.instanceMethod yX4_init, Cond.code yX4_init cX4_init 4 none, Cond.methodLink RX4 3 objectInit, Cond.fieldLink RX4 9 "EntryMasters$Tree" "known" "[I", Cond.arrayClass .boolean, Cond.fieldLink RX4 15 "EntryMasters$Tree" "there" "[Z", Cond.fieldLink RX4 19 "EntryMasters$Tree" "parents" "[I", Cond.fieldLink RX4 22 "EntryMasters$Tree" "labels" "[I", Cond.fieldLink RX4 25 "EntryMasters$Tree" "classesOfEntries" "[I", Cond.fieldLink RX4 28 "EntryMasters$Tree" "values" "[I", Cond.fieldLink RX4 31 "EntryMasters$Tree" "master" "I", Cond.fieldLink RX4 35 "EntryMasters$Tree" "log" "LEntryMasters$Log;", Cond.fieldLink RX4 39 "EntryMasters$Tree" "classes" "LEntryMasters$Classes;", Cond.methodLink RX4 43 yX4_clear, Cond.instanceMethod yX4_clear, Cond.selects RX4 yX4_clear yX4_clear, Cond.code yX4_clear cX4_clear 2 none, Cond.fieldLink RX4 52 "EntryMasters$Tree" "size" "I", Cond.methodLink RX4 46 yJ7_fill_53178, Cond.methodLink RX5 37 yX3_init, Cond.instanceMethod yX3_init]
def wsL_searches_r4 : List Cond := [Cond.code yX3_init cX3_init 1 none, Cond.methodLink RX3 3 objectInit, Cond.fieldLink RX3 9 "EntryMasters$Marks" "rights" "[I", Cond.fieldLink RX3 15 "EntryMasters$Marks" "referrals" "[Z", Cond.methodLink RX3 19 yJ7_fill_53178, Cond.instanceMethod yX1_init, Cond.code yX1_init cX1_init 1 none, Cond.methodLink RX1 3 objectInit, Cond.fieldLink RX1 9 "EntryMasters$Filters" "kinds" "[I", Cond.fieldLink RX1 15 "EntryMasters$Filters" "firsts" "[I", Cond.fieldLink RX1 18 "EntryMasters$Filters" "seconds" "[I", Cond.fieldLink RX1 21 "EntryMasters$Filters" "truths" "[I", Cond.methodLink RL 92 yL_kind, Cond.static yL_kind, Cond.initialized RL, Cond.codeWith yL_kind cL_kind 5 (some .int) [(0, 8, 9, 13), (0, 8, 14, 15), (0, 8, 19, 17)], Cond.classLink RL 13 "java/lang/IndexOutOfBoundsException", Cond.classLink RL 15 "java/lang/IllegalArgumentException", Cond.classLink RL 17 "java/lang/IllegalStateException", Cond.methodLink RL 7 yX5_setClass, Cond.instanceMethod yX5_setClass, Cond.selects RX5 yX5_setClass yX5_setClass, Cond.code yX5_setClass cX5_setClass 4 none, Cond.classLink RX5 61 "java/lang/IllegalStateException"]
def wsL_searches_r5 : List Cond := [Cond.initialized "java/lang/IllegalStateException", Cond.methodLink RX5 49 yX5_checkIndex, Cond.static yX5_checkIndex, Cond.code yX5_checkIndex cX5_checkIndex 2 none, Cond.classLink RX5 169 "java/lang/IndexOutOfBoundsException", Cond.initialized "java/lang/IndexOutOfBoundsException", Cond.methodLink RX5 53 yX5_checkArgument, Cond.static yX5_checkArgument, Cond.code yX5_checkArgument cX5_checkArgument 3 none, Cond.classLink RX5 199 "java/lang/IllegalArgumentException", Cond.initialized "java/lang/IllegalArgumentException", Cond.methodLink RX5 68 yX0_define, Cond.instanceMethod yX0_define, Cond.selects RX0 yX0_define yX0_define, Cond.code yX0_define cX0_define 4 none, Cond.static yX5_put, Cond.code yX5_put cX5_put 3 none, Cond.methodLink RL 26 yX5_add, Cond.instanceMethod yX5_add, Cond.selects RX5 yX5_add yX5_add, Cond.code yX5_add cX5_add 7 (some .int), Cond.methodLink RX5 71 yX5_treeOf, Cond.instanceMethod yX5_treeOf, Cond.selects RX5 yX5_treeOf yX5_treeOf]
def wsL_searches_r6 : List Cond := [Cond.code yX5_treeOf cX5_treeOf 2 (some (.object "EntryMasters$Tree")), Cond.methodLink RX5 75 yX5_checkEntry, Cond.static yX5_checkEntry, Cond.code yX5_checkEntry cX5_checkEntry 2 none, Cond.methodLink RX5 135 yX4_has, Cond.instanceMethod yX4_has, Cond.selects RX4 yX4_has yX4_has, Cond.code yX4_has cX4_has 2 (some .boolean), Cond.methodLink RX5 79 yX5_checkRoomForChange, Cond.instanceMethod yX5_checkRoomForChange, Cond.selects RX5 yX5_checkRoomForChange yX5_checkRoomForChange, Cond.code yX5_checkRoomForChange cX5_checkRoomForChange 1 none, Cond.methodLink RX5 82 yX5_checkLabelIsFree, Cond.static yX5_checkLabelIsFree, Cond.code yX5_checkLabelIsFree cX5_checkLabelIsFree 4 none, Cond.methodLink RX5 144 yX4_childWithLabelLike, Cond.instanceMethod yX4_childWithLabelLike, Cond.selects RX4 yX4_childWithLabelLike yX4_childWithLabelLike, Cond.code yX4_childWithLabelLike cX4_childWithLabelLike 5 (some .int), Cond.methodLink RX4 148 yX4_areLike, Cond.static yX4_areLike, Cond.code yX4_areLike cX4_areLike 2 (some .boolean), Cond.methodLink RX5 86 yX4_stampOfNext, Cond.instanceMethod yX4_stampOfNext]
def wsL_searches_r7 : List Cond := [Cond.selects RX4 yX4_stampOfNext yX4_stampOfNext, Cond.code yX4_stampOfNext cX4_stampOfNext 2 (some .int), Cond.fieldLink RX4 55 "EntryMasters$Tree" "knownCount" "I", Cond.static yX5_at, Cond.code yX5_at cX5_at 2 (some .int), Cond.methodLink RX4 62 yX2_timeAt, Cond.instanceMethod yX2_timeAt, Cond.selects RX2 yX2_timeAt yX2_timeAt, Cond.code yX2_timeAt cX2_timeAt 2 (some .int), Cond.methodLink RX4 68 yX2_stampFrom, Cond.static yX2_stampFrom, Cond.code yX2_stampFrom cX2_stampFrom 2 (some .int), Cond.methodLink RX5 90 yX2_append, Cond.instanceMethod yX2_append, Cond.selects RX2 yX2_append yX2_append, Cond.code yX2_append cX2_append 8 (some .int), Cond.fieldLink RX2 30 "EntryMasters$Log" "count" "I", Cond.methodLink RX5 94 yX4_learn, Cond.instanceMethod yX4_learn, Cond.selects RX4 yX4_learn yX4_learn, Cond.code yX4_learn cX4_learn 3 none, Cond.methodLink RX4 72 yX4_putInOrder, Cond.instanceMethod yX4_putInOrder, Cond.selects RX4 yX4_putInOrder yX4_putInOrder]
def wsL_searches_r8 : List Cond := [Cond.code yX4_putInOrder cX4_putInOrder 3 (some .int), Cond.methodLink RX4 79 yX2_stampAt, Cond.instanceMethod yX2_stampAt, Cond.selects RX2 yX2_stampAt yX2_stampAt, Cond.code yX2_stampAt cX2_stampAt 2 (some .int), Cond.methodLink RX4 75 yX4_perform, Cond.instanceMethod yX4_perform, Cond.selects RX4 yX4_perform yX4_perform, Cond.code yX4_perform cX4_perform 5 none, Cond.methodLink RX4 101 yX4_performAdding, Cond.instanceMethod yX4_performAdding, Cond.selects RX4 yX4_performAdding yX4_performAdding, Cond.code yX4_performAdding cX4_performAdding 5 none, Cond.methodLink RX4 115 yX4_settle, Cond.instanceMethod yX4_settle, Cond.selects RX4 yX4_settle yX4_settle, Cond.code yX4_settle cX4_settle 4 none, Cond.methodLink RX4 119 yX4_has, Cond.methodLink RX4 130 yX4_childWithLabelLike, Cond.methodLink RX4 105 yX4_performSetting, Cond.instanceMethod yX4_performSetting, Cond.selects RX4 yX4_performSetting yX4_performSetting, Cond.code yX4_performSetting cX4_performSetting 4 none, Cond.methodLink RX4 123 yX4_mayHold]
def wsL_searches_r9 : List Cond := [Cond.instanceMethod yX4_mayHold, Cond.selects RX4 yX4_mayHold yX4_mayHold, Cond.code yX4_mayHold cX4_mayHold 3 (some .boolean), Cond.methodLink RX4 134 yX0_allows, Cond.instanceMethod yX0_allows, Cond.selects RX0 yX0_allows yX0_allows, Cond.code yX0_allows cX0_allows 3 (some .boolean), Cond.methodLink RX0 28 yX0_hasBit, Cond.static yX0_hasBit, Cond.code yX0_hasBit cX0_hasBit 2 (some .boolean), Cond.methodLink RX4 109 yX4_performMoving, Cond.instanceMethod yX4_performMoving, Cond.selects RX4 yX4_performMoving yX4_performMoving, Cond.code yX4_performMoving cX4_performMoving 4 none, Cond.methodLink RX4 127 yX4_isAtOrBelow, Cond.instanceMethod yX4_isAtOrBelow, Cond.selects RX4 yX4_isAtOrBelow yX4_isAtOrBelow, Cond.code yX4_isAtOrBelow cX4_isAtOrBelow 5 (some .boolean), Cond.methodLink RX4 145 yX4_parentAt, Cond.instanceMethod yX4_parentAt, Cond.selects RX4 yX4_parentAt yX4_parentAt, Cond.code yX4_parentAt cX4_parentAt 2 (some .int), Cond.methodLink RX4 112 yX4_performDeleting, Cond.instanceMethod yX4_performDeleting]
def wsL_searches_r10 : List Cond := [Cond.selects RX4 yX4_performDeleting yX4_performDeleting, Cond.code yX4_performDeleting cX4_performDeleting 3 none, Cond.methodLink RL 64 yX5_isWhole, Cond.instanceMethod yX5_isWhole, Cond.selects RX5 yX5_isWhole yX5_isWhole, Cond.code yX5_isWhole cX5_isWhole 4 (some .boolean), Cond.methodLink RX5 141 yX4_hasAllNeeded, Cond.instanceMethod yX4_hasAllNeeded, Cond.selects RX4 yX4_hasAllNeeded yX4_hasAllNeeded, Cond.code yX4_hasAllNeeded cX4_hasAllNeeded 4 (some .boolean), Cond.methodLink RX4 139 yX0_needs, Cond.instanceMethod yX0_needs, Cond.selects RX0 yX0_needs yX0_needs, Cond.code yX0_needs cX0_needs 3 (some .boolean), Cond.methodLink RX4 142 yX4_valueAt, Cond.instanceMethod yX4_valueAt, Cond.selects RX4 yX4_valueAt yX4_valueAt, Cond.code yX4_valueAt cX4_valueAt 3 (some .int), Cond.methodLink RL 98 yL_act, Cond.static yL_act, Cond.codeWith yL_act cL_act 7 (some .int) [(0, 289, 290, 13), (0, 289, 295, 15), (0, 289, 300, 17)], Cond.methodLink RL 30 yX5_set, Cond.instanceMethod yX5_set, Cond.selects RX5 yX5_set yX5_set]
def wsL_searches_r11 : List Cond := [Cond.code yX5_set cX5_set 7 (some .int), Cond.methodLink RX5 98 yX4_mayHold, Cond.methodLink RX5 104 yX4_valueAt, Cond.methodLink RL 33 yX5_move, Cond.instanceMethod yX5_move, Cond.selects RX5 yX5_move yX5_move, Cond.code yX5_move cX5_move 7 (some .int), Cond.methodLink RX5 108 yX5_checkIsNotFixed, Cond.static yX5_checkIsNotFixed, Cond.code yX5_checkIsNotFixed cX5_checkIsNotFixed 1 none, Cond.methodLink RX5 111 yX4_isAtOrBelow, Cond.methodLink RX5 116 yX4_parentAt, Cond.methodLink RL 36 yX5_delete, Cond.instanceMethod yX5_delete, Cond.selects RX5 yX5_delete yX5_delete, Cond.code yX5_delete cX5_delete 4 (some .int), Cond.methodLink RX5 120 yX4_hasChild, Cond.instanceMethod yX4_hasChild, Cond.selects RX4 yX4_hasChild yX4_hasChild, Cond.code yX4_hasChild cX4_hasChild 3 (some .boolean), Cond.methodLink RL 40 yX5_carry, Cond.instanceMethod yX5_carry, Cond.selects RX5 yX5_carry yX5_carry, Cond.code yX5_carry cX5_carry 4 (some .boolean)]
def wsL_searches_r12 : List Cond := [Cond.methodLink RX5 129 yX4_knows, Cond.instanceMethod yX4_knows, Cond.selects RX4 yX4_knows yX4_knows, Cond.code yX4_knows cX4_knows 3 (some .boolean), Cond.methodLink RL 44 yX5_timeOf, Cond.instanceMethod yX5_timeOf, Cond.selects RX5 yX5_timeOf yX5_timeOf, Cond.code yX5_timeOf cX5_timeOf 2 (some .int), Cond.methodLink RX5 132 yX2_timeAt, Cond.methodLink RL 48 yX5_entries, Cond.instanceMethod yX5_entries, Cond.selects RX5 yX5_entries yX5_entries, Cond.code yX5_entries cX5_entries 2 (some .int), Cond.methodLink RL 51 yX5_isThere, Cond.instanceMethod yX5_isThere, Cond.selects RX5 yX5_isThere yX5_isThere, Cond.code yX5_isThere cX5_isThere 3 (some .boolean), Cond.methodLink RL 54 yX5_parentOf, Cond.instanceMethod yX5_parentOf, Cond.selects RX5 yX5_parentOf yX5_parentOf, Cond.code yX5_parentOf cX5_parentOf 4 (some .int), Cond.methodLink RL 57 yX5_labelOf, Cond.instanceMethod yX5_labelOf, Cond.selects RX5 yX5_labelOf yX5_labelOf]
def wsL_searches_r13 : List Cond := [Cond.code yX5_labelOf cX5_labelOf 4 (some .int), Cond.methodLink RX5 138 yX4_labelAt, Cond.instanceMethod yX4_labelAt, Cond.selects RX4 yX4_labelAt yX4_labelAt, Cond.code yX4_labelAt cX4_labelAt 2 (some .int), Cond.methodLink RL 60 yX5_value, Cond.instanceMethod yX5_value, Cond.selects RX5 yX5_value yX5_value, Cond.code yX5_value cX5_value 5 (some .int), Cond.methodLink RL 67 yX5_find, Cond.instanceMethod yX5_find, Cond.selects RX5 yX5_find yX5_find, Cond.code yX5_find cX5_find 5 (some .int), Cond.methodLink RL 70 yX5_test, Cond.instanceMethod yX5_test, Cond.selects RX5 yX5_test yX5_test, Cond.code yX5_test cX5_test 4 (some .int), Cond.methodLink RX5 159 yX5_checkRoomForFilter, Cond.instanceMethod yX5_checkRoomForFilter, Cond.selects RX5 yX5_checkRoomForFilter yX5_checkRoomForFilter, Cond.code yX5_checkRoomForFilter cX5_checkRoomForFilter 1 none, Cond.methodLink RX5 162 yX1_append, Cond.instanceMethod yX1_append, Cond.selects RX1 yX1_append yX1_append]
def wsL_searches_r14 : List Cond := [Cond.code yX1_append cX1_append 5 (some .int), Cond.fieldLink RX1 24 "EntryMasters$Filters" "count" "I", Cond.methodLink RL 73 yX5_join, Cond.instanceMethod yX5_join, Cond.selects RX5 yX5_join yX5_join, Cond.code yX5_join cX5_join 4 (some .int), Cond.methodLink RL 76 yX5_holds, Cond.instanceMethod yX5_holds, Cond.selects RX5 yX5_holds yX5_holds, Cond.code yX5_holds cX5_holds 5 (some .int), Cond.methodLink RX5 165 yX1_truthFor, Cond.instanceMethod yX1_truthFor, Cond.selects RX1 yX1_truthFor yX1_truthFor, Cond.code yX1_truthFor cX1_truthFor 8 (some .int), Cond.methodLink RX1 32 yX1_truthOfTest, Cond.static yX1_truthOfTest, Cond.code yX1_truthOfTest cX1_truthOfTest 6 (some .int), Cond.methodLink RX1 44 yX4_mayHold, Cond.methodLink RX1 50 yX4_valueAt, Cond.methodLink RX1 40 yX1_truthOfJoin, Cond.static yX1_truthOfJoin, Cond.code yX1_truthOfJoin cX1_truthOfJoin 3 (some .int), Cond.methodLink RX1 54 yX1_both, Cond.static yX1_both]
def wsL_searches_r15 : List Cond := [Cond.code yX1_both cX1_both 2 (some .int), Cond.methodLink RX1 57 yX1_opposite, Cond.static yX1_opposite, Cond.code yX1_opposite cX1_opposite 1 (some .int), Cond.methodLink RL 79 yX5_search, Cond.instanceMethod yX5_search, Cond.selects RX5 yX5_search yX5_search, Cond.code yX5_search cX5_search 11 (some .int), Cond.methodLink RX5 174 yX4_childAfter, Cond.instanceMethod yX4_childAfter, Cond.selects RX4 yX4_childAfter yX4_childAfter, Cond.code yX4_childAfter cX4_childAfter 6 (some .int), Cond.methodLink RX4 158 yX3_isReferral, Cond.instanceMethod yX3_isReferral, Cond.selects RX3 yX3_isReferral yX3_isReferral, Cond.code yX3_isReferral cX3_isReferral 2 (some .boolean), Cond.methodLink RX4 163 yX4_orderUnderParent, Cond.instanceMethod yX4_orderUnderParent, Cond.selects RX4 yX4_orderUnderParent yX4_orderUnderParent, Cond.code yX4_orderUnderParent cX4_orderUnderParent 3 (some .int), Cond.methodLink RX4 155 yX4_labelAt, Cond.methodLink RX5 178 yX5_isFound, Cond.instanceMethod yX5_isFound, Cond.selects RX5 yX5_isFound yX5_isFound]
def wsL_searches_r16 : List Cond := [Cond.code yX5_isFound cX5_isFound 5 (some .boolean), Cond.methodLink RX5 186 yX3_rightThatCounts, Cond.instanceMethod yX3_rightThatCounts, Cond.selects RX3 yX3_rightThatCounts yX3_rightThatCounts, Cond.code yX3_rightThatCounts cX3_rightThatCounts 7 (some .int), Cond.methodLink RX3 33 yX4_parentAt, Cond.methodLink RX5 182 yX5_nextInScope, Cond.instanceMethod yX5_nextInScope, Cond.selects RX5 yX5_nextInScope yX5_nextInScope, Cond.code yX5_nextInScope cX5_nextInScope 5 (some .int), Cond.methodLink RX5 189 yX4_orderUnderParent, Cond.methodLink RX5 192 yX4_entryAfter, Cond.instanceMethod yX4_entryAfter, Cond.selects RX4 yX4_entryAfter yX4_entryAfter, Cond.code yX4_entryAfter cX4_entryAfter 8 (some .int), Cond.methodLink RX4 166 yX4_childAfter, Cond.methodLink RL 116 yL_refuses, Cond.static yL_refuses, Cond.code yL_refuses cL_refuses 21 (some .boolean), Cond.constant RL 91 (2147483647), Cond.methodLink RL 83 yX5_changes, Cond.instanceMethod yX5_changes, Cond.selects RX5 yX5_changes yX5_changes, Cond.code yX5_changes cX5_changes 1 (some .int)]
def wsL_searches_r17 : List Cond := [Cond.methodLink RL 87 yX5_areAlike, Cond.instanceMethod yX5_areAlike, Cond.selects RX5 yX5_areAlike yX5_areAlike, Cond.code yX5_areAlike cX5_areAlike 1 (some .boolean), Cond.methodLink RX5 148 yX4_isSameAs, Cond.instanceMethod yX4_isSameAs, Cond.selects RX4 yX4_isSameAs yX4_isSameAs, Cond.code yX4_isSameAs cX4_isSameAs 3 (some .boolean), Cond.methodLink RX4 151 yX4_hasSameEntry, Cond.instanceMethod yX4_hasSameEntry, Cond.selects RX4 yX4_hasSameEntry yX4_hasSameEntry, Cond.code yX4_hasSameEntry cX4_hasSameEntry 4 (some .boolean), Cond.methodLink RL 102 yL_right, Cond.static yL_right, Cond.codeWith yL_right cL_right 5 (some .int) [(0, 8, 9, 13), (0, 8, 14, 15)], Cond.methodLink RL 19 yX5_setRight, Cond.instanceMethod yX5_setRight, Cond.selects RX5 yX5_setRight yX5_setRight, Cond.code yX5_setRight cX5_setRight 4 none, Cond.methodLink RX5 152 yX3_putRight, Cond.instanceMethod yX3_putRight, Cond.selects RX3 yX3_putRight yX3_putRight, Cond.code yX3_putRight cX3_putRight 4 none, Cond.methodLink RL 105 yL_refer]
def wsL_searches_r18 : List Cond := [Cond.static yL_refer, Cond.codeWith yL_refer cL_refer 4 (some .int) [(0, 7, 8, 13)], Cond.methodLink RL 22 yX5_refer, Cond.instanceMethod yX5_refer, Cond.selects RX5 yX5_refer yX5_refer, Cond.code yX5_refer cX5_refer 3 none, Cond.methodLink RX5 155 yX3_putReferral, Cond.instanceMethod yX3_putReferral, Cond.selects RX3 yX3_putReferral yX3_putReferral, Cond.code yX3_putReferral cX3_putReferral 3 none, Cond.methodLink RL 108 yL_search, Cond.static yL_search, Cond.codeWith yL_search cL_search 8 (some .int) [(0, 13, 14, 13), (0, 13, 19, 15)], Cond.methodLink RL 120 yL_finds, Cond.static yL_finds, Cond.code yL_finds cL_finds 10 (some .boolean)]
def wsL_searches : List Cond := .code yL_searches cL_searches 2 (some .boolean) :: ((wsL_searches_r1 ++ (wsL_searches_r2 ++ (wsL_searches_r3 ++ (wsL_searches_r4 ++ (wsL_searches_r5 ++ (wsL_searches_r6 ++ (wsL_searches_r7 ++ (wsL_searches_r8 ++ (wsL_searches_r9 ++ (wsL_searches_r10 ++ (wsL_searches_r11 ++ (wsL_searches_r12 ++ (wsL_searches_r13 ++ (wsL_searches_r14 ++ (wsL_searches_r15 ++ (wsL_searches_r16 ++ (wsL_searches_r17 ++ wsL_searches_r18))))))))))))))))) ++ wsX50 ++ wsX00 ++ wsX20 ++ wsX40 ++ wsX30 ++ wsX10 ++ (vx_atS RX5 65 "java/lang/IllegalStateException" ["java/lang/RuntimeException", "java/lang/Exception"]).filter goodWord ++ (vx_atS RX5 173 "java/lang/IndexOutOfBoundsException" ["java/lang/RuntimeException", "java/lang/Exception"]).filter goodWord ++ (vx_atS RX5 203 "java/lang/IllegalArgumentException" ["java/lang/RuntimeException", "java/lang/Exception"]).filter goodWord)
def wsL_law0_r1 : List Cond := [Cond.classLink RL 8 RX5, Cond.instantiable RX5 6, Cond.initialized RX5, Cond.methodLink RL 124 yL_masters, Cond.static yL_masters, Cond.initialized RL, Cond.code yL_masters cL_masters 1 (some .boolean), Cond.methodLink RL 111 yX5_init, Cond.instanceMethod yX5_init, Cond.code yX5_init cX5_init 1 none, Cond.methodLink RX5 3 objectInit, Cond.instanceMethod objectInit, Cond.code objectInit ⟨#[0xb1]⟩ 1 none, Cond.classLink RX5 9 RX0, Cond.instantiable RX0 2, Cond.initialized RX0, Cond.fieldLink RX5 12 "EntryMasters" "classes" "LEntryMasters$Classes;", Cond.classLink RX5 16 RX2, Cond.instantiable RX2 7, Cond.initialized RX2, Cond.fieldLink RX5 19 "EntryMasters" "log" "LEntryMasters$Log;", Cond.classLink RX5 23 RX4, Cond.instantiable RX4 11, Cond.initialized RX4]
def wsL_law0_r2 : List Cond := [Cond.fieldLink RX5 28 "EntryMasters" "firstTree" "LEntryMasters$Tree;", Cond.fieldLink RX5 32 "EntryMasters" "secondTree" "LEntryMasters$Tree;", Cond.classLink RX5 35 RX3, Cond.instantiable RX3 2, Cond.initialized RX3, Cond.fieldLink RX5 38 "EntryMasters" "marks" "LEntryMasters$Marks;", Cond.classLink RX5 42 RX1, Cond.instantiable RX1 5, Cond.initialized RX1, Cond.fieldLink RX5 45 "EntryMasters" "filters" "LEntryMasters$Filters;", Cond.methodLink RX5 11 yX0_init, Cond.instanceMethod yX0_init, Cond.code yX0_init cX0_init 1 none, Cond.methodLink RX0 3 objectInit, Cond.arrayClass .int, Cond.fieldLink RX0 9 "EntryMasters$Classes" "needed" "[I", Cond.fieldLink RX0 15 "EntryMasters$Classes" "allowed" "[I", Cond.methodLink RX0 18 yJ7_fill_53178, Cond.static yJ7_fill_53178, Cond.initialized RJ7, Cond.code yJ7_fill_53178 cJ7_fill_53178 4 none, Cond.instanceMethod yX2_init, Cond.code yX2_init cX2_init 1 none, Cond.methodLink RX2 3 objectInit]
def wsL_law0_r3 : List Cond := [Cond.fieldLink RX2 9 "EntryMasters$Log" "kinds" "[I", Cond.fieldLink RX2 15 "EntryMasters$Log" "stamps" "[I", Cond.fieldLink RX2 18 "EntryMasters$Log" "entries" "[I", Cond.fieldLink RX2 21 "EntryMasters$Log" "targets" "[I", Cond.fieldLink RX2 24 "EntryMasters$Log" "contents" "[I", Cond.fieldLink RX2 27 "EntryMasters$Log" "classesOfAdded" "[I", Cond.methodLink RX5 25 yX4_init, Cond.instanceMethod yX4_init, Cond.code yX4_init cX4_init 4 none, Cond.methodLink RX4 3 objectInit, Cond.fieldLink RX4 9 "EntryMasters$Tree" "known" "[I", Cond.arrayClass .boolean, Cond.fieldLink RX4 15 "EntryMasters$Tree" "there" "[Z", Cond.fieldLink RX4 19 "EntryMasters$Tree" "parents" "[I", Cond.fieldLink RX4 22 "EntryMasters$Tree" "labels" "[I", Cond.fieldLink RX4 25 "EntryMasters$Tree" "classesOfEntries" "[I", Cond.fieldLink RX4 28 "EntryMasters$Tree" "values" "[I", Cond.fieldLink RX4 31 "EntryMasters$Tree" "master" "I", Cond.fieldLink RX4 35 "EntryMasters$Tree" "log" "LEntryMasters$Log;", Cond.fieldLink RX4 39 "EntryMasters$Tree" "classes" "LEntryMasters$Classes;", Cond.methodLink RX4 43 yX4_clear, Cond.instanceMethod yX4_clear, Cond.selects RX4 yX4_clear yX4_clear, Cond.code yX4_clear cX4_clear 2 none]
def wsL_law0_r4 : List Cond := [Cond.fieldLink RX4 52 "EntryMasters$Tree" "size" "I", Cond.methodLink RX4 46 yJ7_fill_53178, Cond.methodLink RX5 37 yX3_init, Cond.instanceMethod yX3_init, Cond.code yX3_init cX3_init 1 none, Cond.methodLink RX3 3 objectInit, Cond.fieldLink RX3 9 "EntryMasters$Marks" "rights" "[I", Cond.fieldLink RX3 15 "EntryMasters$Marks" "referrals" "[Z", Cond.methodLink RX3 19 yJ7_fill_53178, Cond.instanceMethod yX1_init, Cond.code yX1_init cX1_init 1 none, Cond.methodLink RX1 3 objectInit, Cond.fieldLink RX1 9 "EntryMasters$Filters" "kinds" "[I", Cond.fieldLink RX1 15 "EntryMasters$Filters" "firsts" "[I", Cond.fieldLink RX1 18 "EntryMasters$Filters" "seconds" "[I", Cond.fieldLink RX1 21 "EntryMasters$Filters" "truths" "[I", Cond.methodLink RL 83 yX5_changes, Cond.instanceMethod yX5_changes, Cond.selects RX5 yX5_changes yX5_changes, Cond.code yX5_changes cX5_changes 1 (some .int), Cond.methodLink RL 48 yX5_entries, Cond.instanceMethod yX5_entries, Cond.selects RX5 yX5_entries yX5_entries, Cond.code yX5_entries cX5_entries 2 (some .int)]
def wsL_law0_r5 : List Cond := [Cond.methodLink RX5 71 yX5_treeOf, Cond.instanceMethod yX5_treeOf, Cond.selects RX5 yX5_treeOf yX5_treeOf, Cond.code yX5_treeOf cX5_treeOf 2 (some (.object "EntryMasters$Tree")), Cond.methodLink RX5 49 yX5_checkIndex, Cond.static yX5_checkIndex, Cond.code yX5_checkIndex cX5_checkIndex 2 none, Cond.classLink RX5 169 "java/lang/IndexOutOfBoundsException", Cond.initialized "java/lang/IndexOutOfBoundsException", Cond.methodLink RL 87 yX5_areAlike, Cond.instanceMethod yX5_areAlike, Cond.selects RX5 yX5_areAlike yX5_areAlike, Cond.code yX5_areAlike cX5_areAlike 1 (some .boolean), Cond.methodLink RX5 148 yX4_isSameAs, Cond.instanceMethod yX4_isSameAs, Cond.selects RX4 yX4_isSameAs yX4_isSameAs, Cond.code yX4_isSameAs cX4_isSameAs 3 (some .boolean), Cond.methodLink RX4 151 yX4_hasSameEntry, Cond.instanceMethod yX4_hasSameEntry, Cond.selects RX4 yX4_hasSameEntry yX4_hasSameEntry, Cond.code yX4_hasSameEntry cX4_hasSameEntry 4 (some .boolean), Cond.methodLink RX4 142 yX4_valueAt, Cond.instanceMethod yX4_valueAt, Cond.selects RX4 yX4_valueAt yX4_valueAt]
def wsL_law0_r6 : List Cond := [Cond.code yX4_valueAt cX4_valueAt 3 (some .int), Cond.static yX5_at, Cond.code yX5_at cX5_at 2 (some .int), Cond.methodLink RX4 145 yX4_parentAt, Cond.instanceMethod yX4_parentAt, Cond.selects RX4 yX4_parentAt yX4_parentAt, Cond.code yX4_parentAt cX4_parentAt 2 (some .int), Cond.methodLink RX4 155 yX4_labelAt, Cond.instanceMethod yX4_labelAt, Cond.selects RX4 yX4_labelAt yX4_labelAt, Cond.code yX4_labelAt cX4_labelAt 2 (some .int), Cond.methodLink RL 112 yL_at, Cond.static yL_at, Cond.code yL_at cL_at 5 (some .boolean), Cond.methodLink RL 51 yX5_isThere, Cond.instanceMethod yX5_isThere, Cond.selects RX5 yX5_isThere yX5_isThere, Cond.code yX5_isThere cX5_isThere 3 (some .boolean), Cond.methodLink RX5 135 yX4_has, Cond.instanceMethod yX4_has, Cond.selects RX4 yX4_has yX4_has, Cond.code yX4_has cX4_has 2 (some .boolean), Cond.methodLink RL 54 yX5_parentOf, Cond.instanceMethod yX5_parentOf]
def wsL_law0_r7 : List Cond := [Cond.selects RX5 yX5_parentOf yX5_parentOf, Cond.code yX5_parentOf cX5_parentOf 4 (some .int), Cond.methodLink RX5 75 yX5_checkEntry, Cond.static yX5_checkEntry, Cond.code yX5_checkEntry cX5_checkEntry 2 none, Cond.methodLink RX5 116 yX4_parentAt, Cond.methodLink RL 57 yX5_labelOf, Cond.instanceMethod yX5_labelOf, Cond.selects RX5 yX5_labelOf yX5_labelOf, Cond.code yX5_labelOf cX5_labelOf 4 (some .int), Cond.methodLink RX5 138 yX4_labelAt, Cond.methodLink RL 67 yX5_find, Cond.instanceMethod yX5_find, Cond.selects RX5 yX5_find yX5_find, Cond.code yX5_find cX5_find 5 (some .int), Cond.methodLink RX5 53 yX5_checkArgument, Cond.static yX5_checkArgument, Cond.code yX5_checkArgument cX5_checkArgument 3 none, Cond.classLink RX5 199 "java/lang/IllegalArgumentException", Cond.initialized "java/lang/IllegalArgumentException", Cond.methodLink RX5 144 yX4_childWithLabelLike, Cond.instanceMethod yX4_childWithLabelLike, Cond.selects RX4 yX4_childWithLabelLike yX4_childWithLabelLike, Cond.code yX4_childWithLabelLike cX4_childWithLabelLike 5 (some .int)]
def wsL_law0_r8 : List Cond := [Cond.methodLink RX4 148 yX4_areLike, Cond.static yX4_areLike, Cond.code yX4_areLike cX4_areLike 2 (some .boolean), Cond.methodLink RL 116 yL_refuses, Cond.static yL_refuses, Cond.code yL_refuses cL_refuses 21 (some .boolean), Cond.constant RL 91 (2147483647), Cond.methodLink RL 92 yL_kind, Cond.static yL_kind, Cond.codeWith yL_kind cL_kind 5 (some .int) [(0, 8, 9, 13), (0, 8, 14, 15), (0, 8, 19, 17)], Cond.classLink RL 13 "java/lang/IndexOutOfBoundsException", Cond.classLink RL 15 "java/lang/IllegalArgumentException", Cond.classLink RL 17 "java/lang/IllegalStateException", Cond.methodLink RL 7 yX5_setClass, Cond.instanceMethod yX5_setClass, Cond.selects RX5 yX5_setClass yX5_setClass, Cond.code yX5_setClass cX5_setClass 4 none, Cond.classLink RX5 61 "java/lang/IllegalStateException", Cond.initialized "java/lang/IllegalStateException", Cond.methodLink RX5 68 yX0_define, Cond.instanceMethod yX0_define, Cond.selects RX0 yX0_define yX0_define, Cond.code yX0_define cX0_define 4 none, Cond.static yX5_put]
def wsL_law0_r9 : List Cond := [Cond.code yX5_put cX5_put 3 none, Cond.methodLink RL 98 yL_act, Cond.static yL_act, Cond.codeWith yL_act cL_act 7 (some .int) [(0, 289, 290, 13), (0, 289, 295, 15), (0, 289, 300, 17)], Cond.methodLink RL 26 yX5_add, Cond.instanceMethod yX5_add, Cond.selects RX5 yX5_add yX5_add, Cond.code yX5_add cX5_add 7 (some .int), Cond.methodLink RX5 79 yX5_checkRoomForChange, Cond.instanceMethod yX5_checkRoomForChange, Cond.selects RX5 yX5_checkRoomForChange yX5_checkRoomForChange, Cond.code yX5_checkRoomForChange cX5_checkRoomForChange 1 none, Cond.methodLink RX5 82 yX5_checkLabelIsFree, Cond.static yX5_checkLabelIsFree, Cond.code yX5_checkLabelIsFree cX5_checkLabelIsFree 4 none, Cond.methodLink RX5 86 yX4_stampOfNext, Cond.instanceMethod yX4_stampOfNext, Cond.selects RX4 yX4_stampOfNext yX4_stampOfNext, Cond.code yX4_stampOfNext cX4_stampOfNext 2 (some .int), Cond.fieldLink RX4 55 "EntryMasters$Tree" "knownCount" "I", Cond.methodLink RX4 62 yX2_timeAt, Cond.instanceMethod yX2_timeAt, Cond.selects RX2 yX2_timeAt yX2_timeAt, Cond.code yX2_timeAt cX2_timeAt 2 (some .int)]
def wsL_law0_r10 : List Cond := [Cond.methodLink RX4 68 yX2_stampFrom, Cond.static yX2_stampFrom, Cond.code yX2_stampFrom cX2_stampFrom 2 (some .int), Cond.methodLink RX5 90 yX2_append, Cond.instanceMethod yX2_append, Cond.selects RX2 yX2_append yX2_append, Cond.code yX2_append cX2_append 8 (some .int), Cond.fieldLink RX2 30 "EntryMasters$Log" "count" "I", Cond.methodLink RX5 94 yX4_learn, Cond.instanceMethod yX4_learn, Cond.selects RX4 yX4_learn yX4_learn, Cond.code yX4_learn cX4_learn 3 none, Cond.methodLink RX4 72 yX4_putInOrder, Cond.instanceMethod yX4_putInOrder, Cond.selects RX4 yX4_putInOrder yX4_putInOrder, Cond.code yX4_putInOrder cX4_putInOrder 3 (some .int), Cond.methodLink RX4 79 yX2_stampAt, Cond.instanceMethod yX2_stampAt, Cond.selects RX2 yX2_stampAt yX2_stampAt, Cond.code yX2_stampAt cX2_stampAt 2 (some .int), Cond.methodLink RX4 75 yX4_perform, Cond.instanceMethod yX4_perform, Cond.selects RX4 yX4_perform yX4_perform, Cond.code yX4_perform cX4_perform 5 none]
def wsL_law0_r11 : List Cond := [Cond.methodLink RX4 101 yX4_performAdding, Cond.instanceMethod yX4_performAdding, Cond.selects RX4 yX4_performAdding yX4_performAdding, Cond.code yX4_performAdding cX4_performAdding 5 none, Cond.methodLink RX4 115 yX4_settle, Cond.instanceMethod yX4_settle, Cond.selects RX4 yX4_settle yX4_settle, Cond.code yX4_settle cX4_settle 4 none, Cond.methodLink RX4 119 yX4_has, Cond.methodLink RX4 130 yX4_childWithLabelLike, Cond.methodLink RX4 105 yX4_performSetting, Cond.instanceMethod yX4_performSetting, Cond.selects RX4 yX4_performSetting yX4_performSetting, Cond.code yX4_performSetting cX4_performSetting 4 none, Cond.methodLink RX4 123 yX4_mayHold, Cond.instanceMethod yX4_mayHold, Cond.selects RX4 yX4_mayHold yX4_mayHold, Cond.code yX4_mayHold cX4_mayHold 3 (some .boolean), Cond.methodLink RX4 134 yX0_allows, Cond.instanceMethod yX0_allows, Cond.selects RX0 yX0_allows yX0_allows, Cond.code yX0_allows cX0_allows 3 (some .boolean), Cond.methodLink RX0 28 yX0_hasBit, Cond.static yX0_hasBit]
def wsL_law0_r12 : List Cond := [Cond.code yX0_hasBit cX0_hasBit 2 (some .boolean), Cond.methodLink RX4 109 yX4_performMoving, Cond.instanceMethod yX4_performMoving, Cond.selects RX4 yX4_performMoving yX4_performMoving, Cond.code yX4_performMoving cX4_performMoving 4 none, Cond.methodLink RX4 127 yX4_isAtOrBelow, Cond.instanceMethod yX4_isAtOrBelow, Cond.selects RX4 yX4_isAtOrBelow yX4_isAtOrBelow, Cond.code yX4_isAtOrBelow cX4_isAtOrBelow 5 (some .boolean), Cond.methodLink RX4 112 yX4_performDeleting, Cond.instanceMethod yX4_performDeleting, Cond.selects RX4 yX4_performDeleting yX4_performDeleting, Cond.code yX4_performDeleting cX4_performDeleting 3 none, Cond.methodLink RL 30 yX5_set, Cond.instanceMethod yX5_set, Cond.selects RX5 yX5_set yX5_set, Cond.code yX5_set cX5_set 7 (some .int), Cond.methodLink RX5 98 yX4_mayHold, Cond.methodLink RX5 104 yX4_valueAt, Cond.methodLink RL 33 yX5_move, Cond.instanceMethod yX5_move, Cond.selects RX5 yX5_move yX5_move, Cond.code yX5_move cX5_move 7 (some .int), Cond.methodLink RX5 108 yX5_checkIsNotFixed]
def wsL_law0_r13 : List Cond := [Cond.static yX5_checkIsNotFixed, Cond.code yX5_checkIsNotFixed cX5_checkIsNotFixed 1 none, Cond.methodLink RX5 111 yX4_isAtOrBelow, Cond.methodLink RL 36 yX5_delete, Cond.instanceMethod yX5_delete, Cond.selects RX5 yX5_delete yX5_delete, Cond.code yX5_delete cX5_delete 4 (some .int), Cond.methodLink RX5 120 yX4_hasChild, Cond.instanceMethod yX4_hasChild, Cond.selects RX4 yX4_hasChild yX4_hasChild, Cond.code yX4_hasChild cX4_hasChild 3 (some .boolean), Cond.methodLink RL 40 yX5_carry, Cond.instanceMethod yX5_carry, Cond.selects RX5 yX5_carry yX5_carry, Cond.code yX5_carry cX5_carry 4 (some .boolean), Cond.methodLink RX5 129 yX4_knows, Cond.instanceMethod yX4_knows, Cond.selects RX4 yX4_knows yX4_knows, Cond.code yX4_knows cX4_knows 3 (some .boolean), Cond.methodLink RL 44 yX5_timeOf, Cond.instanceMethod yX5_timeOf, Cond.selects RX5 yX5_timeOf yX5_timeOf, Cond.code yX5_timeOf cX5_timeOf 2 (some .int), Cond.methodLink RX5 132 yX2_timeAt]
def wsL_law0_r14 : List Cond := [Cond.methodLink RL 60 yX5_value, Cond.instanceMethod yX5_value, Cond.selects RX5 yX5_value yX5_value, Cond.code yX5_value cX5_value 5 (some .int), Cond.methodLink RL 64 yX5_isWhole, Cond.instanceMethod yX5_isWhole, Cond.selects RX5 yX5_isWhole yX5_isWhole, Cond.code yX5_isWhole cX5_isWhole 4 (some .boolean), Cond.methodLink RX5 141 yX4_hasAllNeeded, Cond.instanceMethod yX4_hasAllNeeded, Cond.selects RX4 yX4_hasAllNeeded yX4_hasAllNeeded, Cond.code yX4_hasAllNeeded cX4_hasAllNeeded 4 (some .boolean), Cond.methodLink RX4 139 yX0_needs, Cond.instanceMethod yX0_needs, Cond.selects RX0 yX0_needs yX0_needs, Cond.code yX0_needs cX0_needs 3 (some .boolean), Cond.methodLink RL 70 yX5_test, Cond.instanceMethod yX5_test, Cond.selects RX5 yX5_test yX5_test, Cond.code yX5_test cX5_test 4 (some .int), Cond.methodLink RX5 159 yX5_checkRoomForFilter, Cond.instanceMethod yX5_checkRoomForFilter, Cond.selects RX5 yX5_checkRoomForFilter yX5_checkRoomForFilter, Cond.code yX5_checkRoomForFilter cX5_checkRoomForFilter 1 none]
def wsL_law0_r15 : List Cond := [Cond.methodLink RX5 162 yX1_append, Cond.instanceMethod yX1_append, Cond.selects RX1 yX1_append yX1_append, Cond.code yX1_append cX1_append 5 (some .int), Cond.fieldLink RX1 24 "EntryMasters$Filters" "count" "I", Cond.methodLink RL 73 yX5_join, Cond.instanceMethod yX5_join, Cond.selects RX5 yX5_join yX5_join, Cond.code yX5_join cX5_join 4 (some .int), Cond.methodLink RL 76 yX5_holds, Cond.instanceMethod yX5_holds, Cond.selects RX5 yX5_holds yX5_holds, Cond.code yX5_holds cX5_holds 5 (some .int), Cond.methodLink RX5 165 yX1_truthFor, Cond.instanceMethod yX1_truthFor, Cond.selects RX1 yX1_truthFor yX1_truthFor, Cond.code yX1_truthFor cX1_truthFor 8 (some .int), Cond.methodLink RX1 32 yX1_truthOfTest, Cond.static yX1_truthOfTest, Cond.code yX1_truthOfTest cX1_truthOfTest 6 (some .int), Cond.methodLink RX1 44 yX4_mayHold, Cond.methodLink RX1 50 yX4_valueAt, Cond.methodLink RX1 40 yX1_truthOfJoin, Cond.static yX1_truthOfJoin]
def wsL_law0_r16 : List Cond := [Cond.code yX1_truthOfJoin cX1_truthOfJoin 3 (some .int), Cond.methodLink RX1 54 yX1_both, Cond.static yX1_both, Cond.code yX1_both cX1_both 2 (some .int), Cond.methodLink RX1 57 yX1_opposite, Cond.static yX1_opposite, Cond.code yX1_opposite cX1_opposite 1 (some .int), Cond.methodLink RL 79 yX5_search, Cond.instanceMethod yX5_search, Cond.selects RX5 yX5_search yX5_search, Cond.code yX5_search cX5_search 11 (some .int), Cond.methodLink RX5 174 yX4_childAfter, Cond.instanceMethod yX4_childAfter, Cond.selects RX4 yX4_childAfter yX4_childAfter, Cond.code yX4_childAfter cX4_childAfter 6 (some .int), Cond.methodLink RX4 158 yX3_isReferral, Cond.instanceMethod yX3_isReferral, Cond.selects RX3 yX3_isReferral yX3_isReferral, Cond.code yX3_isReferral cX3_isReferral 2 (some .boolean), Cond.methodLink RX4 163 yX4_orderUnderParent, Cond.instanceMethod yX4_orderUnderParent, Cond.selects RX4 yX4_orderUnderParent yX4_orderUnderParent, Cond.code yX4_orderUnderParent cX4_orderUnderParent 3 (some .int), Cond.methodLink RX5 178 yX5_isFound]
def wsL_law0_r17 : List Cond := [Cond.instanceMethod yX5_isFound, Cond.selects RX5 yX5_isFound yX5_isFound, Cond.code yX5_isFound cX5_isFound 5 (some .boolean), Cond.methodLink RX5 186 yX3_rightThatCounts, Cond.instanceMethod yX3_rightThatCounts, Cond.selects RX3 yX3_rightThatCounts yX3_rightThatCounts, Cond.code yX3_rightThatCounts cX3_rightThatCounts 7 (some .int), Cond.methodLink RX3 33 yX4_parentAt, Cond.methodLink RX5 182 yX5_nextInScope, Cond.instanceMethod yX5_nextInScope, Cond.selects RX5 yX5_nextInScope yX5_nextInScope, Cond.code yX5_nextInScope cX5_nextInScope 5 (some .int), Cond.methodLink RX5 189 yX4_orderUnderParent, Cond.methodLink RX5 192 yX4_entryAfter, Cond.instanceMethod yX4_entryAfter, Cond.selects RX4 yX4_entryAfter yX4_entryAfter, Cond.code yX4_entryAfter cX4_entryAfter 8 (some .int), Cond.methodLink RX4 166 yX4_childAfter, Cond.methodLink RL 102 yL_right, Cond.static yL_right, Cond.codeWith yL_right cL_right 5 (some .int) [(0, 8, 9, 13), (0, 8, 14, 15)], Cond.methodLink RL 19 yX5_setRight, Cond.instanceMethod yX5_setRight, Cond.selects RX5 yX5_setRight yX5_setRight]
def wsL_law0_r18 : List Cond := [Cond.code yX5_setRight cX5_setRight 4 none, Cond.methodLink RX5 152 yX3_putRight, Cond.instanceMethod yX3_putRight, Cond.selects RX3 yX3_putRight yX3_putRight, Cond.code yX3_putRight cX3_putRight 4 none, Cond.methodLink RL 105 yL_refer, Cond.static yL_refer, Cond.codeWith yL_refer cL_refer 4 (some .int) [(0, 7, 8, 13)], Cond.methodLink RL 22 yX5_refer, Cond.instanceMethod yX5_refer, Cond.selects RX5 yX5_refer yX5_refer, Cond.code yX5_refer cX5_refer 3 none, Cond.methodLink RX5 155 yX3_putReferral, Cond.instanceMethod yX3_putReferral, Cond.selects RX3 yX3_putReferral yX3_putReferral, Cond.code yX3_putReferral cX3_putReferral 3 none, Cond.methodLink RL 108 yL_search, Cond.static yL_search, Cond.codeWith yL_search cL_search 8 (some .int) [(0, 13, 14, 13), (0, 13, 19, 15)], Cond.methodLink RL 127 yL_searches, Cond.static yL_searches, Cond.code yL_searches cL_searches 2 (some .boolean), Cond.methodLink RL 120 yL_finds, Cond.static yL_finds]
def wsL_law0_r19 : List Cond := [Cond.code yL_finds cL_finds 10 (some .boolean)]
def wsL_law0 : List Cond := (wsL_law0_r1 ++ (wsL_law0_r2 ++ (wsL_law0_r3 ++ (wsL_law0_r4 ++ (wsL_law0_r5 ++ (wsL_law0_r6 ++ (wsL_law0_r7 ++ (wsL_law0_r8 ++ (wsL_law0_r9 ++ (wsL_law0_r10 ++ (wsL_law0_r11 ++ (wsL_law0_r12 ++ (wsL_law0_r13 ++ (wsL_law0_r14 ++ (wsL_law0_r15 ++ (wsL_law0_r16 ++ (wsL_law0_r17 ++ (wsL_law0_r18 ++ wsL_law0_r19)))))))))))))))))) ++ wsX50 ++ wsX00 ++ wsX20 ++ wsX40 ++ wsX30 ++ wsX10 ++ ([] : List Cond)
def wsL_law : List Cond := wsL_law0 ++ (vx_atS RX5 173 "java/lang/IndexOutOfBoundsException" ["java/lang/RuntimeException", "java/lang/Exception"]).filter goodWord ++ (vx_atS RX5 203 "java/lang/IllegalArgumentException" ["java/lang/RuntimeException", "java/lang/Exception"]).filter goodWord ++ (vx_atS RX5 65 "java/lang/IllegalStateException" ["java/lang/RuntimeException", "java/lang/Exception"]).filter goodWord
end
section
set_option maxRecDepth 20000 in
theorem lj_wsL_law0_r1_0 : (Cond.classLink RL 8 RX5) ∈ lw_tbl := by decide +kernel
set_option maxRecDepth 20000 in
theorem lj_wsL_law0_r1_1 : (Cond.instantiable RX5 6) ∈ lw_tbl := by decide +kernel
set_option maxRecDepth 20000 in
theorem lj_wsL_law0_r1_2 : (Cond.initialized RX5) ∈ lw_tbl := by decide +kernel
set_option maxRecDepth 20000 in
theorem lj_wsL_law0_r1_3 : (Cond.methodLink RL 124 yL_masters) ∈ lw_tbl := by decide +kernel
set_option maxRecDepth 20000 in
theorem lj_wsL_law0_r1_4 : (Cond.static yL_masters) ∈ lw_tbl := by decide +kernel
set_option maxRecDepth 20000 in
theorem lj_wsL_law0_r1_5 : (Cond.initialized RL) ∈ lw_tbl := by decide +kernel
set_option maxRecDepth 20000 in
theorem lj_wsL_law0_r1_7 : (Cond.methodLink RL 111 yX5_init) ∈ lw_tbl := by decide +kernel
set_option maxRecDepth 20000 in
theorem lj_wsL_law0_r1_8 : (Cond.instanceMethod yX5_init) ∈ lw_tbl := by decide +kernel
set_option maxRecDepth 20000 in
theorem lj_wsL_law0_r1_10 : (Cond.methodLink RX5 3 objectInit) ∈ lw_tbl := by decide +kernel
set_option maxRecDepth 20000 in
theorem lj_wsL_law0_r1_11 : (Cond.instanceMethod objectInit) ∈ lw_tbl := by decide +kernel
set_option maxRecDepth 20000 in
theorem lj_wsL_law0_r1_13 : (Cond.classLink RX5 9 RX0) ∈ lw_tbl := by decide +kernel
set_option maxRecDepth 20000 in
theorem lj_wsL_law0_r1_14 : (Cond.instantiable RX0 2) ∈ lw_tbl := by decide +kernel
set_option maxRecDepth 20000 in
theorem lj_wsL_law0_r1_15 : (Cond.initialized RX0) ∈ lw_tbl := by decide +kernel
set_option maxRecDepth 20000 in
theorem lj_wsL_law0_r1_16 : (Cond.fieldLink RX5 12 "EntryMasters" "classes" "LEntryMasters$Classes;") ∈ lw_tbl := by decide +kernel
set_option maxRecDepth 20000 in
theorem lj_wsL_law0_r1_17 : (Cond.classLink RX5 16 RX2) ∈ lw_tbl := by decide +kernel
set_option maxRecDepth 20000 in
theorem lj_wsL_law0_r1_18 : (Cond.instantiable RX2 7) ∈ lw_tbl := by decide +kernel
set_option maxRecDepth 20000 in
theorem lj_wsL_law0_r1_19 : (Cond.initialized RX2) ∈ lw_tbl := by decide +kernel
set_option maxRecDepth 20000 in
theorem lj_wsL_law0_r1_20 : (Cond.fieldLink RX5 19 "EntryMasters" "log" "LEntryMasters$Log;") ∈ lw_tbl := by decide +kernel
set_option maxRecDepth 20000 in
theorem lj_wsL_law0_r1_21 : (Cond.classLink RX5 23 RX4) ∈ lw_tbl := by decide +kernel
set_option maxRecDepth 20000 in
theorem lj_wsL_law0_r1_22 : (Cond.instantiable RX4 11) ∈ lw_tbl := by decide +kernel
set_option maxRecDepth 20000 in
theorem lj_wsL_law0_r1_23 : (Cond.initialized RX4) ∈ lw_tbl := by decide +kernel
set_option maxRecDepth 20000 in
theorem li_wsL_law0_r1 : ∀ w ∈ wsL_law0_r1, w ∈ lw_tbl := (List.forall_mem_cons.mpr ⟨lj_wsL_law0_r1_0, (List.forall_mem_cons.mpr ⟨lj_wsL_law0_r1_1, (List.forall_mem_cons.mpr ⟨lj_wsL_law0_r1_2, (List.forall_mem_cons.mpr ⟨lj_wsL_law0_r1_3, (List.forall_mem_cons.mpr ⟨lj_wsL_law0_r1_4, (List.forall_mem_cons.mpr ⟨lj_wsL_law0_r1_5, (List.forall_mem_cons.mpr ⟨(List.mem_of_getElem? (i := 638) rfl), (List.forall_mem_cons.mpr ⟨lj_wsL_law0_r1_7, (List.forall_mem_cons.mpr ⟨lj_wsL_law0_r1_8, (List.forall_mem_cons.mpr ⟨(List.mem_of_getElem? (i := 33) rfl), (List.forall_mem_cons.mpr ⟨lj_wsL_law0_r1_10, (List.forall_mem_cons.mpr ⟨lj_wsL_law0_r1_11, (List.forall_mem_cons.mpr ⟨(List.mem_of_getElem? (i := 36) rfl), (List.forall_mem_cons.mpr ⟨lj_wsL_law0_r1_13, (List.forall_mem_cons.mpr ⟨lj_wsL_law0_r1_14, (List.forall_mem_cons.mpr ⟨lj_wsL_law0_r1_15, (List.forall_mem_cons.mpr ⟨lj_wsL_law0_r1_16, (List.forall_mem_cons.mpr ⟨lj_wsL_law0_r1_17, (List.forall_mem_cons.mpr ⟨lj_wsL_law0_r1_18, (List.forall_mem_cons.mpr ⟨lj_wsL_law0_r1_19, (List.forall_mem_cons.mpr ⟨lj_wsL_law0_r1_20, (List.forall_mem_cons.mpr ⟨lj_wsL_law0_r1_21, (List.forall_mem_cons.mpr ⟨lj_wsL_law0_r1_22, (List.forall_mem_cons.mpr ⟨lj_wsL_law0_r1_23, (fun _ h => absurd h List.not_mem_nil)⟩)⟩)⟩)⟩)⟩)⟩)⟩)⟩)⟩)⟩)⟩)⟩)⟩)⟩)⟩)⟩)⟩)⟩)⟩)⟩)⟩)⟩)⟩)⟩)
set_option maxRecDepth 20000 in
theorem li_wsL_law0_r2 : ∀ w ∈ wsL_law0_r2, w ∈ lw_tbl := fun w h => (goodIn_p wsL_law0_r2 [41, 45, 58] (by decide +kernel) (by decide +kernel) w h).1
set_option maxRecDepth 20000 in
theorem li_wsL_law0_r3 : ∀ w ∈ wsL_law0_r3, w ∈ lw_tbl := fun w h => (goodIn_p wsL_law0_r3 [92, 97] (by decide +kernel) (by decide +kernel) w h).1
set_option maxRecDepth 20000 in
theorem li_wsL_law0_r4 : ∀ w ∈ wsL_law0_r4, w ∈ lw_tbl := fun w h => (goodIn_p wsL_law0_r4 [139, 153, 429, 468] (by decide +kernel) (by decide +kernel) w h).1
set_option maxRecDepth 20000 in
theorem li_wsL_law0_r5 : ∀ w ∈ wsL_law0_r5, w ∈ lw_tbl := fun w h => (goodIn_p wsL_law0_r5 [198, 201, 587, 591, 595] (by decide +kernel) (by decide +kernel) w h).1
set_option maxRecDepth 20000 in
theorem li_wsL_law0_r6 : ∀ w ∈ wsL_law0_r6, w ∈ lw_tbl := fun w h => (goodIn_p wsL_law0_r6 [417, 334, 403, 484, 641, 472, 276] (by decide +kernel) (by decide +kernel) w h).1
set_option maxRecDepth 20000 in
theorem li_wsL_law0_r7 : ∀ w ∈ wsL_law0_r7, w ∈ lw_tbl := fun w h => (goodIn_p wsL_law0_r7 [476, 272, 480, 438, 280, 323] (by decide +kernel) (by decide +kernel) w h).1
set_option maxRecDepth 20000 in
theorem lj_wsL_law0_r8_0 : (Cond.methodLink RX4 148 yX4_areLike) ∈ lw_tbl := by decide +kernel
set_option maxRecDepth 20000 in
theorem lj_wsL_law0_r8_1 : (Cond.static yX4_areLike) ∈ lw_tbl := by decide +kernel
set_option maxRecDepth 20000 in
theorem lj_wsL_law0_r8_3 : (Cond.methodLink RL 116 yL_refuses) ∈ lw_tbl := by decide +kernel
set_option maxRecDepth 20000 in
theorem lj_wsL_law0_r8_4 : (Cond.static yL_refuses) ∈ lw_tbl := by decide +kernel
set_option maxRecDepth 20000 in
theorem lj_wsL_law0_r8_6 : (Cond.constant RL 91 (2147483647)) ∈ lw_tbl := by decide +kernel
set_option maxRecDepth 20000 in
theorem lj_wsL_law0_r8_7 : (Cond.methodLink RL 92 yL_kind) ∈ lw_tbl := by decide +kernel
set_option maxRecDepth 20000 in
theorem lj_wsL_law0_r8_8 : (Cond.static yL_kind) ∈ lw_tbl := by decide +kernel
set_option maxRecDepth 20000 in
theorem lj_wsL_law0_r8_9 : (Cond.codeWith yL_kind cL_kind 5 (some .int) [(0, 8, 9, 13), (0, 8, 14, 15), (0, 8, 19, 17)]) ∈ lw_tbl := by decide +kernel
set_option maxRecDepth 20000 in
theorem lj_wsL_law0_r8_10 : (Cond.classLink RL 13 "java/lang/IndexOutOfBoundsException") ∈ lw_tbl := by decide +kernel
set_option maxRecDepth 20000 in
theorem lj_wsL_law0_r8_11 : (Cond.classLink RL 15 "java/lang/IllegalArgumentException") ∈ lw_tbl := by decide +kernel
set_option maxRecDepth 20000 in
theorem lj_wsL_law0_r8_12 : (Cond.classLink RL 17 "java/lang/IllegalStateException") ∈ lw_tbl := by decide +kernel
set_option maxRecDepth 20000 in
theorem lj_wsL_law0_r8_13 : (Cond.methodLink RL 7 yX5_setClass) ∈ lw_tbl := by decide +kernel
set_option maxRecDepth 20000 in
theorem lj_wsL_law0_r8_14 : (Cond.instanceMethod yX5_setClass) ∈ lw_tbl := by decide +kernel
set_option maxRecDepth 20000 in
theorem lj_wsL_law0_r8_15 : (Cond.selects RX5 yX5_setClass yX5_setClass) ∈ lw_tbl := by decide +kernel
set_option maxRecDepth 20000 in
theorem lj_wsL_law0_r8_17 : (Cond.classLink RX5 61 "java/lang/IllegalStateException") ∈ lw_tbl := by decide +kernel
set_option maxRecDepth 20000 in
theorem lj_wsL_law0_r8_18 : (Cond.initialized "java/lang/IllegalStateException") ∈ lw_tbl := by decide +kernel
set_option maxRecDepth 20000 in
theorem lj_wsL_law0_r8_19 : (Cond.methodLink RX5 68 yX0_define) ∈ lw_tbl := by decide +kernel
set_option maxRecDepth 20000 in
theorem lj_wsL_law0_r8_20 : (Cond.instanceMethod yX0_define) ∈ lw_tbl := by decide +kernel
set_option maxRecDepth 20000 in
theorem lj_wsL_law0_r8_21 : (Cond.selects RX0 yX0_define yX0_define) ∈ lw_tbl := by decide +kernel
set_option maxRecDepth 20000 in
theorem lj_wsL_law0_r8_23 : (Cond.static yX5_put) ∈ lw_tbl := by decide +kernel
set_option maxRecDepth 20000 in
theorem li_wsL_law0_r8 : ∀ w ∈ wsL_law0_r8, w ∈ lw_tbl := (List.forall_mem_cons.mpr ⟨lj_wsL_law0_r8_0, (List.forall_mem_cons.mpr ⟨lj_wsL_law0_r8_1, (List.forall_mem_cons.mpr ⟨(List.mem_of_getElem? (i := 326) rfl), (List.forall_mem_cons.mpr ⟨lj_wsL_law0_r8_3, (List.forall_mem_cons.mpr ⟨lj_wsL_law0_r8_4, (List.forall_mem_cons.mpr ⟨(List.mem_of_getElem? (i := 583) rfl), (List.forall_mem_cons.mpr ⟨lj_wsL_law0_r8_6, (List.forall_mem_cons.mpr ⟨lj_wsL_law0_r8_7, (List.forall_mem_cons.mpr ⟨lj_wsL_law0_r8_8, (List.forall_mem_cons.mpr ⟨lj_wsL_law0_r8_9, (List.forall_mem_cons.mpr ⟨lj_wsL_law0_r8_10, (List.forall_mem_cons.mpr ⟨lj_wsL_law0_r8_11, (List.forall_mem_cons.mpr ⟨lj_wsL_law0_r8_12, (List.forall_mem_cons.mpr ⟨lj_wsL_law0_r8_13, (List.forall_mem_cons.mpr ⟨lj_wsL_law0_r8_14, (List.forall_mem_cons.mpr ⟨lj_wsL_law0_r8_15, (List.forall_mem_cons.mpr ⟨(List.mem_of_getElem? (i := 603) rfl), (List.forall_mem_cons.mpr ⟨lj_wsL_law0_r8_17, (List.forall_mem_cons.mpr ⟨lj_wsL_law0_r8_18, (List.forall_mem_cons.mpr ⟨lj_wsL_law0_r8_19, (List.forall_mem_cons.mpr ⟨lj_wsL_law0_r8_20, (List.forall_mem_cons.mpr ⟨lj_wsL_law0_r8_21, (List.forall_mem_cons.mpr ⟨(List.mem_of_getElem? (i := 608) rfl), (List.forall_mem_cons.mpr ⟨lj_wsL_law0_r8_23, (fun _ h => absurd h List.not_mem_nil)⟩)⟩)⟩)⟩)⟩)⟩)⟩)⟩)⟩)⟩)⟩)⟩)⟩)⟩)⟩)⟩)⟩)⟩)⟩)⟩)⟩)⟩)⟩)⟩)
set_option maxRecDepth 20000 in
theorem li_wsL_law0_r9 : ∀ w ∈ wsL_law0_r9, w ∈ lw_tbl := fun w h => (goodIn_p wsL_law0_r9 [349, 194, 300, 319, 331, 338] (by decide +kernel) (by decide +kernel) w h).1
set_option maxRecDepth 20000 in
theorem li_wsL_law0_r10 : ∀ w ∈ wsL_law0_r10, w ∈ lw_tbl := fun w h => (goodIn_p wsL_law0_r10 [342, 346, 353, 357, 361, 366] (by decide +kernel) (by decide +kernel) w h).1
set_option maxRecDepth 20000 in
theorem li_wsL_law0_r11 : ∀ w ∈ wsL_law0_r11, w ∈ lw_tbl := fun w h => (goodIn_p wsL_law0_r11 [370, 374, 380, 384, 388] (by decide +kernel) (by decide +kernel) w h).1
set_option maxRecDepth 20000 in
theorem li_wsL_law0_r12 : ∀ w ∈ wsL_law0_r12, w ∈ lw_tbl := fun w h => (goodIn_p wsL_law0_r12 [391, 395, 399, 407, 411, 448] (by decide +kernel) (by decide +kernel) w h).1
set_option maxRecDepth 20000 in
theorem li_wsL_law0_r13 : ∀ w ∈ wsL_law0_r13, w ∈ lw_tbl := fun w h => (goodIn_p wsL_law0_r13 [451, 459, 463, 421, 425, 433] (by decide +kernel) (by decide +kernel) w h).1
set_option maxRecDepth 20000 in
theorem li_wsL_law0_r14 : ∀ w ∈ wsL_law0_r14, w ∈ lw_tbl := fun w h => (goodIn_p wsL_law0_r14 [488, 492, 496, 500, 505, 509] (by decide +kernel) (by decide +kernel) w h).1
set_option maxRecDepth 20000 in
theorem li_wsL_law0_r15 : ∀ w ∈ wsL_law0_r15, w ∈ lw_tbl := fun w h => (goodIn_p wsL_law0_r15 [514, 519, 523, 527, 530] (by decide +kernel) (by decide +kernel) w h).1
set_option maxRecDepth 20000 in
theorem li_wsL_law0_r16 : ∀ w ∈ wsL_law0_r16, w ∈ lw_tbl := fun w h => (goodIn_p wsL_law0_r16 [536, 539, 542, 546, 551, 555, 559] (by decide +kernel) (by decide +kernel) w h).1
set_option maxRecDepth 20000 in
theorem li_wsL_law0_r17 : ∀ w ∈ wsL_law0_r17, w ∈ lw_tbl := fun w h => (goodIn_p wsL_law0_r17 [564, 568, 574, 579] (by decide +kernel) (by decide +kernel) w h).1
set_option maxRecDepth 20000 in
theorem lj_wsL_law0_r18_1 : (Cond.methodLink RX5 152 yX3_putRight) ∈ lw_tbl := by decide +kernel
set_option maxRecDepth 20000 in
theorem lj_wsL_law0_r18_2 : (Cond.instanceMethod yX3_putRight) ∈ lw_tbl := by decide +kernel
set_option maxRecDepth 20000 in
theorem lj_wsL_law0_r18_3 : (Cond.selects RX3 yX3_putRight yX3_putRight) ∈ lw_tbl := by decide +kernel
set_option maxRecDepth 20000 in
theorem lj_wsL_law0_r18_5 : (Cond.methodLink RL 105 yL_refer) ∈ lw_tbl := by decide +kernel
set_option maxRecDepth 20000 in
theorem lj_wsL_law0_r18_6 : (Cond.static yL_refer) ∈ lw_tbl := by decide +kernel
set_option maxRecDepth 20000 in
theorem lj_wsL_law0_r18_7 : (Cond.codeWith yL_refer cL_refer 4 (some .int) [(0, 7, 8, 13)]) ∈ lw_tbl := by decide +kernel
set_option maxRecDepth 20000 in
theorem lj_wsL_law0_r18_8 : (Cond.methodLink RL 22 yX5_refer) ∈ lw_tbl := by decide +kernel
set_option maxRecDepth 20000 in
theorem lj_wsL_law0_r18_9 : (Cond.instanceMethod yX5_refer) ∈ lw_tbl := by decide +kernel
set_option maxRecDepth 20000 in
theorem lj_wsL_law0_r18_10 : (Cond.selects RX5 yX5_refer yX5_refer) ∈ lw_tbl := by decide +kernel
set_option maxRecDepth 20000 in
theorem lj_wsL_law0_r18_12 : (Cond.methodLink RX5 155 yX3_putReferral) ∈ lw_tbl := by decide +kernel
set_option maxRecDepth 20000 in
theorem lj_wsL_law0_r18_13 : (Cond.instanceMethod yX3_putReferral) ∈ lw_tbl := by decide +kernel
set_option maxRecDepth 20000 in
theorem lj_wsL_law0_r18_14 : (Cond.selects RX3 yX3_putReferral yX3_putReferral) ∈ lw_tbl := by decide +kernel
set_option maxRecDepth 20000 in
theorem lj_wsL_law0_r18_16 : (Cond.methodLink RL 108 yL_search) ∈ lw_tbl := by decide +kernel
set_option maxRecDepth 20000 in
theorem lj_wsL_law0_r18_17 : (Cond.static yL_search) ∈ lw_tbl := by decide +kernel
set_option maxRecDepth 20000 in
theorem lj_wsL_law0_r18_18 : (Cond.codeWith yL_search cL_search 8 (some .int) [(0, 13, 14, 13), (0, 13, 19, 15)]) ∈ lw_tbl := by decide +kernel
set_option maxRecDepth 20000 in
theorem lj_wsL_law0_r18_19 : (Cond.methodLink RL 127 yL_searches) ∈ lw_tbl := by decide +kernel
set_option maxRecDepth 20000 in
theorem lj_wsL_law0_r18_20 : (Cond.static yL_searches) ∈ lw_tbl := by decide +kernel
set_option maxRecDepth 20000 in
theorem lj_wsL_law0_r18_22 : (Cond.methodLink RL 120 yL_finds) ∈ lw_tbl := by decide +kernel
set_option maxRecDepth 20000 in
theorem lj_wsL_law0_r18_23 : (Cond.static yL_finds) ∈ lw_tbl := by decide +kernel
set_option maxRecDepth 20000 in
theorem li_wsL_law0_r18 : ∀ w ∈ wsL_law0_r18, w ∈ lw_tbl := (List.forall_mem_cons.mpr ⟨(List.mem_of_getElem? (i := 616) rfl), (List.forall_mem_cons.mpr ⟨lj_wsL_law0_r18_1, (List.forall_mem_cons.mpr ⟨lj_wsL_law0_r18_2, (List.forall_mem_cons.mpr ⟨lj_wsL_law0_r18_3, (List.forall_mem_cons.mpr ⟨(List.mem_of_getElem? (i := 620) rfl), (List.forall_mem_cons.mpr ⟨lj_wsL_law0_r18_5, (List.forall_mem_cons.mpr ⟨lj_wsL_law0_r18_6, (List.forall_mem_cons.mpr ⟨lj_wsL_law0_r18_7, (List.forall_mem_cons.mpr ⟨lj_wsL_law0_r18_8, (List.forall_mem_cons.mpr ⟨lj_wsL_law0_r18_9, (List.forall_mem_cons.mpr ⟨lj_wsL_law0_r18_10, (List.forall_mem_cons.mpr ⟨(List.mem_of_getElem? (i := 628) rfl), (List.forall_mem_cons.mpr ⟨lj_wsL_law0_r18_12, (List.forall_mem_cons.mpr ⟨lj_wsL_law0_r18_13, (List.forall_mem_cons.mpr ⟨lj_wsL_law0_r18_14, (List.forall_mem_cons.mpr ⟨(List.mem_of_getElem? (i := 632) rfl), (List.forall_mem_cons.mpr ⟨lj_wsL_law0_r18_16, (List.forall_mem_cons.mpr ⟨lj_wsL_law0_r18_17, (List.forall_mem_cons.mpr ⟨lj_wsL_law0_r18_18, (List.forall_mem_cons.mpr ⟨lj_wsL_law0_r18_19, (List.forall_mem_cons.mpr ⟨lj_wsL_law0_r18_20, (List.forall_mem_cons.mpr ⟨(List.mem_of_getElem? (i := 644) rfl), (List.forall_mem_cons.mpr ⟨lj_wsL_law0_r18_22, (List.forall_mem_cons.mpr ⟨lj_wsL_law0_r18_23, (fun _ h => absurd h List.not_mem_nil)⟩)⟩)⟩)⟩)⟩)⟩)⟩)⟩)⟩)⟩)⟩)⟩)⟩)⟩)⟩)⟩)⟩)⟩)⟩)⟩)⟩)⟩)⟩)⟩)
set_option maxRecDepth 20000 in
theorem li_wsL_law0_r19 : ∀ w ∈ wsL_law0_r19, w ∈ lw_tbl := fun w h => (goodIn_p wsL_law0_r19 [647] (by decide +kernel) (by decide +kernel) w h).1
set_option maxRecDepth 20000 in
theorem li_wsX50 : ∀ w ∈ wsX50, w ∈ lw_tbl := fun w h => (goodIn_p wsX50 [] (by decide +kernel) (by decide +kernel) w h).1
set_option maxRecDepth 20000 in
theorem li_wsX00 : ∀ w ∈ wsX00, w ∈ lw_tbl := fun w h => (goodIn_p wsX00 [] (by decide +kernel) (by decide +kernel) w h).1
set_option maxRecDepth 20000 in
theorem li_wsX20 : ∀ w ∈ wsX20, w ∈ lw_tbl := fun w h => (goodIn_p wsX20 [] (by decide +kernel) (by decide +kernel) w h).1
set_option maxRecDepth 20000 in
theorem li_wsX40 : ∀ w ∈ wsX40, w ∈ lw_tbl := fun w h => (goodIn_p wsX40 [] (by decide +kernel) (by decide +kernel) w h).1
set_option maxRecDepth 20000 in
theorem li_wsX30 : ∀ w ∈ wsX30, w ∈ lw_tbl := fun w h => (goodIn_p wsX30 [] (by decide +kernel) (by decide +kernel) w h).1
set_option maxRecDepth 20000 in
theorem li_wsX10 : ∀ w ∈ wsX10, w ∈ lw_tbl := fun w h => (goodIn_p wsX10 [] (by decide +kernel) (by decide +kernel) w h).1
theorem wsL_law_in0 : ∀ w ∈ wsL_law0, w ∈ lw_tbl := List.forall_mem_append.mpr ⟨List.forall_mem_append.mpr ⟨List.forall_mem_append.mpr ⟨List.forall_mem_append.mpr ⟨List.forall_mem_append.mpr ⟨List.forall_mem_append.mpr ⟨List.forall_mem_append.mpr ⟨List.forall_mem_append.mpr ⟨li_wsL_law0_r1, List.forall_mem_append.mpr ⟨li_wsL_law0_r2, List.forall_mem_append.mpr ⟨li_wsL_law0_r3, List.forall_mem_append.mpr ⟨li_wsL_law0_r4, List.forall_mem_append.mpr ⟨li_wsL_law0_r5, List.forall_mem_append.mpr ⟨li_wsL_law0_r6, List.forall_mem_append.mpr ⟨li_wsL_law0_r7, List.forall_mem_append.mpr ⟨li_wsL_law0_r8, List.forall_mem_append.mpr ⟨li_wsL_law0_r9, List.forall_mem_append.mpr ⟨li_wsL_law0_r10, List.forall_mem_append.mpr ⟨li_wsL_law0_r11, List.forall_mem_append.mpr ⟨li_wsL_law0_r12, List.forall_mem_append.mpr ⟨li_wsL_law0_r13, List.forall_mem_append.mpr ⟨li_wsL_law0_r14, List.forall_mem_append.mpr ⟨li_wsL_law0_r15, List.forall_mem_append.mpr ⟨li_wsL_law0_r16, List.forall_mem_append.mpr ⟨li_wsL_law0_r17, List.forall_mem_append.mpr ⟨li_wsL_law0_r18, li_wsL_law0_r19⟩⟩⟩⟩⟩⟩⟩⟩⟩⟩⟩⟩⟩⟩⟩⟩⟩⟩, li_wsX50⟩, li_wsX00⟩, li_wsX20⟩, li_wsX40⟩, li_wsX30⟩, li_wsX10⟩, fun _ h => absurd h List.not_mem_nil⟩
end
section
theorem wsL_law_x0 : ∀ w ∈ (vx_atS RX5 173 "java/lang/IndexOutOfBoundsException" ["java/lang/RuntimeException", "java/lang/Exception"]).filter goodWord, w ∈ lw_tbl := by decide +kernel
theorem wsL_law_x1 : ∀ w ∈ (vx_atS RX5 203 "java/lang/IllegalArgumentException" ["java/lang/RuntimeException", "java/lang/Exception"]).filter goodWord, w ∈ lw_tbl := by decide +kernel
theorem wsL_law_x2 : ∀ w ∈ (vx_atS RX5 65 "java/lang/IllegalStateException" ["java/lang/RuntimeException", "java/lang/Exception"]).filter goodWord, w ∈ lw_tbl := by decide +kernel
theorem wsL_law_in : ∀ w ∈ wsL_law, w ∈ lw_tbl := fun w h => (List.mem_append.mp h).elim (fun h => (List.mem_append.mp h).elim (fun h => (List.mem_append.mp h).elim (fun h => wsL_law_in0 w h) (fun h => wsL_law_x0 w h)) (fun h => wsL_law_x1 w h)) (fun h => wsL_law_x2 w h)
theorem inlX0 : ∀ w ∈ wsX00, w ∈ wsL_law := fun _ h => List.mem_append_left _ (List.mem_append_left _ (List.mem_append_left _ (List.mem_append_left _ (List.mem_append_left _ (List.mem_append_left _ (List.mem_append_left _ (List.mem_append_left _ (List.mem_append_right _ h))))))))
theorem inX0 : ∀ w ∈ wsX00, w ∈ lw_tbl := fun w h => wsL_law_in w (inlX0 w h)
theorem inlX1 : ∀ w ∈ wsX10, w ∈ wsL_law := fun _ h => List.mem_append_left _ (List.mem_append_left _ (List.mem_append_left _ (List.mem_append_left _ (List.mem_append_right _ h))))
theorem inX1 : ∀ w ∈ wsX10, w ∈ lw_tbl := fun w h => wsL_law_in w (inlX1 w h)
theorem inlX2 : ∀ w ∈ wsX20, w ∈ wsL_law := fun _ h => List.mem_append_left _ (List.mem_append_left _ (List.mem_append_left _ (List.mem_append_left _ (List.mem_append_left _ (List.mem_append_left _ (List.mem_append_left _ (List.mem_append_right _ h)))))))
theorem inX2 : ∀ w ∈ wsX20, w ∈ lw_tbl := fun w h => wsL_law_in w (inlX2 w h)
theorem inlX3 : ∀ w ∈ wsX30, w ∈ wsL_law := fun _ h => List.mem_append_left _ (List.mem_append_left _ (List.mem_append_left _ (List.mem_append_left _ (List.mem_append_left _ (List.mem_append_right _ h)))))
theorem inX3 : ∀ w ∈ wsX30, w ∈ lw_tbl := fun w h => wsL_law_in w (inlX3 w h)
theorem inlX4 : ∀ w ∈ wsX40, w ∈ wsL_law := fun _ h => List.mem_append_left _ (List.mem_append_left _ (List.mem_append_left _ (List.mem_append_left _ (List.mem_append_left _ (List.mem_append_left _ (List.mem_append_right _ h))))))
theorem inX4 : ∀ w ∈ wsX40, w ∈ lw_tbl := fun w h => wsL_law_in w (inlX4 w h)
theorem inlX5 : ∀ w ∈ wsX50, w ∈ wsL_law := fun _ h => List.mem_append_left _ (List.mem_append_left _ (List.mem_append_left _ (List.mem_append_left _ (List.mem_append_left _ (List.mem_append_left _ (List.mem_append_left _ (List.mem_append_left _ (List.mem_append_left _ (List.mem_append_right _ h)))))))))
theorem inX5 : ∀ w ∈ wsX50, w ∈ lw_tbl := fun w h => wsL_law_in w (inlX5 w h)
theorem inX6 : ∀ w ∈ wsX60, w ∈ lw_tbl := by decide +kernel
theorem inJx145de : ∀ w ∈ wsJx145de0, w ∈ lw_tbl := by decide +kernel
theorem inJ0 : ∀ w ∈ wsJ00, w ∈ lw_tbl := by decide +kernel
theorem inJ7 : ∀ w ∈ wsJ70, w ∈ lw_tbl := by decide +kernel
end
section
theorem goodIn_cons {big ws : List Cond} {c : Cond} (h : c ∈ big) (hg : goodWord c = true) (hb : GoodIn big ws) : GoodIn big (c :: ws) := fun w hw => (List.mem_cons.mp hw).elim (fun e => by rw [e]; exact ⟨h, good_of_word hg⟩) (hb w)
theorem goodIn_nil {big : List Cond} : GoodIn big [] := fun _ h => absurd h List.not_mem_nil
set_option maxRecDepth 20000 in
theorem ggL_kind_X5_setClass : GoodIn wsL_kind wsX5_setClass := goodIn_ca (goodIn_ca (goodIn_ca (goodIn_r _ [8, 9, 10, 11, 12, 13, 14, 7, 15, 16, 17, 18, 19, 20, 21, 22, 23, 24, 25, 26, 27, 28, 29, 30, 31, 32, 33, 34, 35, 36, 37, 38, 39, 40, 41, 42, 43, 44, 45, 46] (by decide +kernel) (by decide +kernel)) (goodIn_sub (fun _ h => List.mem_cons_of_mem _ (List.mem_append_left _ (List.mem_append_left _ (List.mem_append_right _ h)))) (by decide +kernel))) (goodIn_sub (fun _ h => List.mem_cons_of_mem _ (List.mem_append_left _ (List.mem_append_right _ h))) (by decide +kernel))) (goodIn_sub (fun _ h => List.mem_cons_of_mem _ (List.mem_append_right _ h)) (by decide +kernel))
set_option maxRecDepth 20000 in
theorem gL_kind_X5_setClass : GoodIn wsL_kind (wsV RL 7 RX5 yX5_setClass wsX5_setClass) := goodIn_app (goodIn_of _ (by decide +kernel)) ggL_kind_X5_setClass
set_option maxRecDepth 20000 in
theorem ggL_right_X5_setRight : GoodIn wsL_right wsX5_setRight := goodIn_ca (goodIn_ca (goodIn_r _ [7, 8, 9, 10, 6, 11, 12, 13, 14, 15, 16, 17, 18, 19, 20, 21, 22, 23, 24, 25, 26, 27, 28, 29, 30, 31, 32, 33, 34] (by decide +kernel) (by decide +kernel)) (goodIn_sub (fun _ h => List.mem_cons_of_mem _ (List.mem_append_left _ (List.mem_append_right _ h))) (by decide +kernel))) (goodIn_sub (fun _ h => List.mem_cons_of_mem _ (List.mem_append_right _ h)) (by decide +kernel))
set_option maxRecDepth 20000 in
theorem gL_right_X5_setRight : GoodIn wsL_right (wsV RL 19 RX5 yX5_setRight wsX5_setRight) := goodIn_app (goodIn_of _ (by decide +kernel)) ggL_right_X5_setRight
set_option maxRecDepth 20000 in
theorem ggL_refer_X5_refer : GoodIn wsL_refer wsX5_refer := goodIn_ca (goodIn_r _ [6, 7, 8, 9, 5, 10, 11, 12, 13, 14, 15, 16, 17, 18, 19, 20, 21, 22, 23, 24, 25, 26] (by decide +kernel) (by decide +kernel)) (goodIn_sub (fun _ h => List.mem_cons_of_mem _ (List.mem_append_right _ h)) (by decide +kernel))
set_option maxRecDepth 20000 in
theorem gL_refer_X5_refer : GoodIn wsL_refer (wsV RL 22 RX5 yX5_refer wsX5_refer) := goodIn_app (goodIn_of _ (by decide +kernel)) ggL_refer_X5_refer
set_option maxRecDepth 20000 in
theorem ggL_search_X5_search : GoodIn wsL_search wsX5_search := goodIn_ca (goodIn_ca (goodIn_r _ [7, 8, 9, 10, 11, 12, 13, 14, 6, 15, 16, 17, 18, 19, 20, 21, 22, 23, 24, 25, 26, 27, 28, 29, 30, 31, 32, 33, 34, 35, 36, 37, 38, 39, 40, 41, 42, 43, 44, 45, 46, 47, 48, 49, 50, 51, 52, 53, 54, 55, 56, 57, 58, 59, 60, 61, 62, 63, 64, 65, 66, 67, 68, 69, 70, 71, 72, 73, 74, 75, 76, 77, 78, 79, 80, 81, 82, 83, 84, 85, 86, 87, 88, 89, 90, 91, 92, 93, 94, 95, 96, 97, 98, 99, 100, 101, 102, 103, 104, 105, 106, 107, 108, 109, 110, 111, 112, 113, 114, 115, 116, 117, 118, 119, 120, 121, 122, 123, 124, 125, 126, 127, 128, 129, 130, 131, 132, 133, 134, 135, 136, 137, 138, 139, 140, 141, 142, 143, 144, 145, 146, 147] (by decide +kernel) (by decide +kernel)) (goodIn_sub (fun _ h => List.mem_cons_of_mem _ (List.mem_append_left _ (List.mem_append_right _ h))) (by decide +kernel))) (goodIn_sub (fun _ h => List.mem_cons_of_mem _ (List.mem_append_right _ h)) (by decide +kernel))
set_option maxRecDepth 20000 in
theorem gL_search_X5_search : GoodIn wsL_search (wsV RL 79 RX5 yX5_search wsX5_search) := goodIn_app (goodIn_of _ (by decide +kernel)) ggL_search_X5_search
set_option maxRecDepth 20000 in
theorem ggL_at_X5_isThere : GoodIn wsL_at wsX5_isThere := goodIn_ca (goodIn_r _ [5, 6, 7, 8, 4, 9, 10, 11, 12, 13, 14, 15, 16, 17, 18, 19, 20, 21, 22, 46, 47, 48, 49, 50, 51, 52, 53, 54, 55, 56, 57, 58, 59, 60, 61, 62] (by decide +kernel) (by decide +kernel)) (goodIn_sub (fun _ h => List.mem_cons_of_mem _ (List.mem_append_right _ h)) (by decide +kernel))
set_option maxRecDepth 20000 in
theorem gL_at_X5_isThere : GoodIn wsL_at (wsV RL 51 RX5 yX5_isThere wsX5_isThere) := goodIn_app (goodIn_of _ (by decide +kernel)) ggL_at_X5_isThere
set_option maxRecDepth 20000 in
theorem ggL_at_X5_parentOf : GoodIn wsL_at wsX5_parentOf := goodIn_ca (goodIn_r _ [26, 6, 7, 8, 4, 9, 10, 11, 12, 13, 14, 15, 16, 27, 28, 29, 17, 18, 19, 20, 21, 22, 30, 31, 32, 33, 34, 35, 36, 46, 47, 48, 49, 50, 51, 52, 53, 54, 55, 56, 57, 58, 59, 60, 61, 62] (by decide +kernel) (by decide +kernel)) (goodIn_sub (fun _ h => List.mem_cons_of_mem _ (List.mem_append_right _ h)) (by decide +kernel))
set_option maxRecDepth 20000 in
theorem gL_at_X5_parentOf : GoodIn wsL_at (wsV RL 54 RX5 yX5_parentOf wsX5_parentOf) := goodIn_app (goodIn_of _ (by decide +kernel)) ggL_at_X5_parentOf
set_option maxRecDepth 20000 in
theorem ggL_at_X5_labelOf : GoodIn wsL_at wsX5_labelOf := goodIn_ca (goodIn_r _ [40, 6, 7, 8, 4, 9, 10, 11, 12, 13, 14, 15, 16, 27, 28, 29, 17, 18, 19, 20, 21, 22, 41, 42, 43, 44, 45, 35, 36, 46, 47, 48, 49, 50, 51, 52, 53, 54, 55, 56, 57, 58, 59, 60, 61, 62] (by decide +kernel) (by decide +kernel)) (goodIn_sub (fun _ h => List.mem_cons_of_mem _ (List.mem_append_right _ h)) (by decide +kernel))
set_option maxRecDepth 20000 in
theorem gL_at_X5_labelOf : GoodIn wsL_at (wsV RL 57 RX5 yX5_labelOf wsX5_labelOf) := goodIn_app (goodIn_of _ (by decide +kernel)) ggL_at_X5_labelOf
set_option maxRecDepth 20000 in
theorem ggL_finds_X5_search : GoodIn wsL_finds wsX5_search := goodIn_ca (goodIn_ca (goodIn_r _ [5, 6, 7, 8, 9, 10, 11, 12, 4, 13, 14, 15, 16, 17, 18, 19, 20, 21, 22, 23, 24, 25, 26, 27, 28, 29, 30, 31, 32, 33, 34, 35, 36, 37, 38, 39, 40, 41, 42, 43, 44, 45, 46, 47, 48, 49, 50, 51, 52, 53, 54, 55, 56, 57, 58, 59, 60, 61, 62, 63, 64, 65, 66, 67, 68, 69, 70, 71, 72, 73, 74, 75, 76, 77, 78, 79, 80, 81, 82, 83, 84, 85, 86, 87, 88, 89, 90, 91, 92, 93, 94, 95, 96, 97, 98, 99, 100, 101, 102, 103, 104, 105, 106, 107, 108, 109, 110, 111, 112, 113, 114, 115, 116, 117, 118, 119, 120, 121, 122, 123, 124, 125, 126, 127, 128, 129, 130, 131, 132, 133, 134, 135, 136, 137, 138, 139, 140, 141, 142, 143, 144, 145] (by decide +kernel) (by decide +kernel)) (goodIn_sub (fun _ h => List.mem_cons_of_mem _ (List.mem_append_left _ (List.mem_append_right _ h))) (by decide +kernel))) (goodIn_sub (fun _ h => List.mem_cons_of_mem _ (List.mem_append_right _ h)) (by decide +kernel))
set_option maxRecDepth 20000 in
theorem gL_finds_X5_search : GoodIn wsL_finds (wsV RL 79 RX5 yX5_search wsX5_search) := goodIn_app (goodIn_of _ (by decide +kernel)) ggL_finds_X5_search
end
section
set_option maxRecDepth 20000 in
theorem ggL_act_X5_add : GoodIn wsL_act wsX5_add := goodIn_ca (goodIn_ca (goodIn_ca (goodIn_r _ [8, 9, 10, 11, 12, 7, 13, 14, 15, 16, 17, 18, 19, 20, 21, 22, 23, 24, 25, 26, 27, 28, 29, 30, 31, 32, 33, 34, 35, 36, 37, 38, 39, 40, 41, 42, 43, 44, 45, 46, 47, 48, 49, 50, 51, 52, 53, 54, 55, 56, 57, 58, 59, 60, 61, 62, 63, 64, 65, 66, 67, 68, 69, 70, 71, 72, 73, 74, 75, 76, 77, 78, 79, 80, 81, 82, 83, 84, 85, 86, 87, 88, 89, 90, 91, 92, 93, 94, 95, 96, 97, 98, 99, 100, 101, 102, 103, 104, 105, 106, 107, 108, 109, 110, 111, 112, 113, 114, 115, 116, 117, 118, 119, 120, 121, 122, 123, 124, 125, 126, 127, 128, 129, 130, 131, 132, 133, 134, 135, 136, 137, 138, 139, 140, 141, 142, 143, 144, 145, 146, 147, 148, 149, 150, 151, 152, 153, 154, 321, 322, 323, 324, 325, 326, 327, 328, 329, 330, 331, 332, 333, 334, 335, 336, 337, 338, 339, 340, 341, 342, 343, 344, 345, 346] (by decide +kernel) (by decide +kernel)) (goodIn_sub (fun _ h => List.mem_cons_of_mem _ (List.mem_append_left _ (List.mem_append_left _ (List.mem_append_right _ h)))) (by decide +kernel))) (goodIn_sub (fun _ h => List.mem_cons_of_mem _ (List.mem_append_left _ (List.mem_append_right _ h))) (by decide +kernel))) (goodIn_sub (fun _ h => List.mem_cons_of_mem _ (List.mem_append_right _ h)) (by decide +kernel))
set_option maxRecDepth 20000 in
theorem gL_act_X5_add : GoodIn wsL_act (wsV RL 26 RX5 yX5_add wsX5_add) := goodIn_app (goodIn_of _ (by decide +kernel)) ggL_act_X5_add
set_option maxRecDepth 20000 in
theorem ggL_act_X5_set : GoodIn wsL_act wsX5_set := goodIn_ca (goodIn_ca (goodIn_ca (goodIn_r _ [158, 39, 40, 9, 10, 11, 12, 7, 13, 14, 15, 16, 17, 18, 19, 20, 21, 22, 23, 24, 25, 26, 27, 28, 29, 30, 31, 32, 33, 34, 35, 36, 37, 38, 159, 126, 127, 128, 129, 100, 61, 62, 130, 131, 132, 133, 134, 135, 136, 137, 138, 160, 161, 162, 163, 101, 53, 54, 55, 56, 57, 58, 59, 60, 63, 64, 65, 66, 67, 68, 69, 70, 71, 72, 73, 74, 75, 76, 77, 78, 79, 80, 81, 82, 83, 84, 85, 86, 87, 88, 89, 90, 91, 92, 93, 94, 95, 96, 97, 98, 99, 48, 49, 102, 103, 104, 105, 106, 107, 108, 109, 110, 111, 112, 113, 114, 115, 116, 117, 118, 119, 120, 45, 46, 47, 50, 51, 52, 121, 122, 123, 124, 125, 139, 140, 141, 142, 143, 144, 145, 146, 147, 148, 149, 150, 151, 152, 153, 154, 321, 322, 323, 324, 325, 326, 334, 335, 336, 337, 338, 339, 340, 341, 342, 343, 344, 327, 328, 329, 330, 331, 332, 333, 345, 346] (by decide +kernel) (by decide +kernel)) (goodIn_sub (fun _ h => List.mem_cons_of_mem _ (List.mem_append_right _ h)) (by decide +kernel))) (goodIn_sub (fun _ h => List.mem_cons_of_mem _ (List.mem_append_left _ (List.mem_append_left _ (List.mem_append_right _ h)))) (by decide +kernel))) (goodIn_sub (fun _ h => List.mem_cons_of_mem _ (List.mem_append_left _ (List.mem_append_right _ h))) (by decide +kernel))
set_option maxRecDepth 20000 in
theorem gL_act_X5_set : GoodIn wsL_act (wsV RL 30 RX5 yX5_set wsX5_set) := goodIn_app (goodIn_of _ (by decide +kernel)) ggL_act_X5_set
set_option maxRecDepth 20000 in
theorem ggL_act_X5_move : GoodIn wsL_act wsX5_move := goodIn_ca (goodIn_ca (goodIn_ca (goodIn_r _ [167, 39, 40, 9, 10, 11, 12, 7, 13, 14, 15, 16, 17, 18, 19, 20, 21, 22, 23, 24, 25, 26, 27, 28, 29, 30, 31, 32, 33, 34, 35, 36, 37, 38, 168, 169, 170, 171, 144, 145, 146, 147, 148, 149, 150, 48, 61, 62, 41, 42, 43, 44, 45, 46, 47, 49, 50, 51, 52, 172, 53, 54, 55, 56, 57, 58, 59, 60, 63, 64, 65, 66, 67, 68, 69, 70, 71, 72, 73, 74, 75, 76, 77, 78, 79, 80, 81, 82, 83, 84, 85, 86, 87, 88, 89, 90, 91, 92, 93, 94, 95, 96, 97, 98, 99, 100, 101, 102, 103, 104, 105, 106, 107, 108, 109, 110, 111, 112, 113, 114, 115, 116, 117, 118, 119, 120, 121, 122, 123, 124, 125, 126, 127, 128, 129, 130, 131, 132, 133, 134, 135, 136, 137, 138, 139, 140, 141, 142, 143, 151, 152, 153, 154, 321, 322, 323, 324, 325, 326, 334, 335, 336, 337, 338, 339, 340, 341, 342, 343, 344, 327, 328, 329, 330, 331, 332, 333, 345, 346] (by decide +kernel) (by decide +kernel)) (goodIn_sub (fun _ h => List.mem_cons_of_mem _ (List.mem_append_right _ h)) (by decide +kernel))) (goodIn_sub (fun _ h => List.mem_cons_of_mem _ (List.mem_append_left _ (List.mem_append_left _ (List.mem_append_right _ h)))) (by decide +kernel))) (goodIn_sub (fun _ h => List.mem_cons_of_mem _ (List.mem_append_left _ (List.mem_append_right _ h))) (by decide +kernel))
set_option maxRecDepth 20000 in
theorem gL_act_X5_move : GoodIn wsL_act (wsV RL 33 RX5 yX5_move wsX5_move) := goodIn_app (goodIn_of _ (by decide +kernel)) ggL_act_X5_move
set_option maxRecDepth 20000 in
theorem ggL_act_X5_delete : GoodIn wsL_act wsX5_delete := goodIn_ca (goodIn_ca (goodIn_r _ [176, 39, 40, 9, 10, 11, 12, 7, 13, 14, 15, 16, 17, 18, 19, 20, 21, 22, 23, 24, 25, 26, 27, 28, 29, 35, 36, 37, 38, 168, 169, 170, 177, 178, 179, 180, 48, 53, 54, 55, 56, 57, 58, 59, 60, 61, 62, 63, 64, 65, 66, 67, 68, 69, 70, 71, 72, 73, 74, 75, 76, 77, 78, 79, 80, 81, 82, 83, 84, 85, 86, 87, 88, 89, 90, 91, 92, 93, 94, 95, 96, 97, 98, 99, 49, 100, 101, 102, 103, 104, 105, 106, 107, 108, 109, 110, 111, 112, 113, 114, 115, 116, 117, 118, 119, 120, 45, 46, 47, 50, 51, 52, 121, 122, 123, 124, 125, 126, 127, 128, 129, 130, 131, 132, 133, 134, 135, 136, 137, 138, 139, 140, 141, 142, 143, 144, 145, 146, 147, 148, 149, 150, 151, 152, 153, 154, 321, 322, 323, 324, 325, 326, 334, 335, 336, 337, 338, 339, 340, 341, 342, 343, 344, 327, 328, 329, 330, 331, 332, 333, 345, 346] (by decide +kernel) (by decide +kernel)) (goodIn_sub (fun _ h => List.mem_cons_of_mem _ (List.mem_append_right _ h)) (by decide +kernel))) (goodIn_sub (fun _ h => List.mem_cons_of_mem _ (List.mem_append_left _ (List.mem_append_left _ (List.mem_append_right _ h)))) (by decide +kernel))
set_option maxRecDepth 20000 in
theorem gL_act_X5_delete : GoodIn wsL_act (wsV RL 36 RX5 yX5_delete wsX5_delete) := goodIn_app (goodIn_of _ (by decide +kernel)) ggL_act_X5_delete
set_option maxRecDepth 20000 in
theorem ggL_act_X5_carry : GoodIn wsL_act wsX5_carry := goodIn_ca (goodIn_r _ [184, 9, 16, 17, 7, 18, 19, 20, 10, 11, 12, 13, 14, 15, 185, 186, 187, 27, 188, 57, 59, 84, 85, 86, 87, 88, 89, 90, 91, 58, 61, 62, 92, 93, 94, 66, 95, 68, 82, 83, 96, 97, 98, 99, 29, 48, 49, 100, 101, 102, 103, 104, 105, 106, 107, 108, 109, 110, 111, 112, 113, 114, 115, 116, 117, 118, 119, 25, 26, 28, 120, 45, 46, 47, 50, 51, 52, 121, 122, 123, 124, 125, 126, 127, 128, 129, 130, 131, 132, 133, 134, 135, 136, 137, 138, 139, 140, 141, 142, 143, 144, 145, 146, 147, 148, 149, 150, 151, 152, 153, 154, 321, 322, 323, 324, 325, 326, 327, 328, 329, 330, 331, 332, 333, 334, 335, 336, 337, 338, 339, 340, 341, 342, 343, 344, 345, 346] (by decide +kernel) (by decide +kernel)) (goodIn_sub (fun _ h => List.mem_cons_of_mem _ (List.mem_append_left _ (List.mem_append_left _ (List.mem_append_right _ h)))) (by decide +kernel))
set_option maxRecDepth 20000 in
theorem gL_act_X5_carry : GoodIn wsL_act (wsV RL 40 RX5 yX5_carry wsX5_carry) := goodIn_app (goodIn_of _ (by decide +kernel)) ggL_act_X5_carry
set_option maxRecDepth 20000 in
theorem ggL_act_X5_timeOf : GoodIn wsL_act wsX5_timeOf := goodIn_ca (goodIn_r _ [192, 9, 16, 17, 7, 18, 19, 20, 193, 64, 65, 66, 67, 68, 61, 62, 321, 322, 323, 324, 325, 326, 327, 328, 329, 330, 331, 332, 333] (by decide +kernel) (by decide +kernel)) (goodIn_sub (fun _ h => List.mem_cons_of_mem _ (List.mem_append_left _ (List.mem_append_left _ (List.mem_append_right _ h)))) (by decide +kernel))
set_option maxRecDepth 20000 in
theorem gL_act_X5_timeOf : GoodIn wsL_act (wsV RL 44 RX5 yX5_timeOf wsX5_timeOf) := goodIn_app (goodIn_of _ (by decide +kernel)) ggL_act_X5_timeOf
set_option maxRecDepth 20000 in
theorem ggL_act_X5_entries : GoodIn wsL_act wsX5_entries := goodIn_ca (goodIn_r _ [197, 10, 11, 12, 7, 13, 14, 15, 16, 17, 18, 19, 20, 334, 335, 336, 337, 338, 339, 340, 341, 342, 343, 344, 321, 322, 323, 324, 325, 326] (by decide +kernel) (by decide +kernel)) (goodIn_sub (fun _ h => List.mem_cons_of_mem _ (List.mem_append_left _ (List.mem_append_left _ (List.mem_append_right _ h)))) (by decide +kernel))
set_option maxRecDepth 20000 in
theorem gL_act_X5_entries : GoodIn wsL_act (wsV RL 48 RX5 yX5_entries wsX5_entries) := goodIn_app (goodIn_of _ (by decide +kernel)) ggL_act_X5_entries
set_option maxRecDepth 20000 in
theorem ggL_act_X5_isThere : GoodIn wsL_act wsX5_isThere := goodIn_ca (goodIn_r _ [201, 10, 11, 12, 7, 13, 14, 15, 16, 17, 18, 19, 20, 24, 25, 26, 27, 28, 29, 321, 322, 323, 324, 325, 326, 334, 335, 336, 337, 338, 339, 340, 341, 342, 343, 344] (by decide +kernel) (by decide +kernel)) (goodIn_sub (fun _ h => List.mem_cons_of_mem _ (List.mem_append_left _ (List.mem_append_left _ (List.mem_append_right _ h)))) (by decide +kernel))
set_option maxRecDepth 20000 in
theorem gL_act_X5_isThere : GoodIn wsL_act (wsV RL 51 RX5 yX5_isThere wsX5_isThere) := goodIn_app (goodIn_of _ (by decide +kernel)) ggL_act_X5_isThere
set_option maxRecDepth 20000 in
theorem ggL_act_X5_parentOf : GoodIn wsL_act wsX5_parentOf := goodIn_ca (goodIn_r _ [205, 10, 11, 12, 7, 13, 14, 15, 16, 17, 18, 19, 20, 21, 22, 23, 24, 25, 26, 27, 28, 29, 172, 148, 149, 150, 48, 61, 62, 321, 322, 323, 324, 325, 326, 334, 335, 336, 337, 338, 339, 340, 341, 342, 343, 344] (by decide +kernel) (by decide +kernel)) (goodIn_sub (fun _ h => List.mem_cons_of_mem _ (List.mem_append_left _ (List.mem_append_left _ (List.mem_append_right _ h)))) (by decide +kernel))
set_option maxRecDepth 20000 in
theorem gL_act_X5_parentOf : GoodIn wsL_act (wsV RL 54 RX5 yX5_parentOf wsX5_parentOf) := goodIn_app (goodIn_of _ (by decide +kernel)) ggL_act_X5_parentOf
set_option maxRecDepth 20000 in
theorem ggL_act_X5_labelOf : GoodIn wsL_act wsX5_labelOf := goodIn_ca (goodIn_r _ [209, 10, 11, 12, 7, 13, 14, 15, 16, 17, 18, 19, 20, 21, 22, 23, 24, 25, 26, 27, 28, 29, 210, 211, 212, 213, 49, 61, 62, 321, 322, 323, 324, 325, 326, 334, 335, 336, 337, 338, 339, 340, 341, 342, 343, 344] (by decide +kernel) (by decide +kernel)) (goodIn_sub (fun _ h => List.mem_cons_of_mem _ (List.mem_append_left _ (List.mem_append_left _ (List.mem_append_right _ h)))) (by decide +kernel))
set_option maxRecDepth 20000 in
theorem gL_act_X5_labelOf : GoodIn wsL_act (wsV RL 57 RX5 yX5_labelOf wsX5_labelOf) := goodIn_app (goodIn_of _ (by decide +kernel)) ggL_act_X5_labelOf
end
section
set_option maxRecDepth 20000 in
theorem ggL_act_X5_value : GoodIn wsL_act wsX5_value := goodIn_ca (goodIn_r _ [217, 10, 11, 12, 7, 13, 14, 15, 16, 17, 18, 19, 20, 21, 22, 23, 24, 25, 26, 27, 28, 29, 160, 161, 162, 163, 101, 61, 62, 321, 322, 323, 324, 325, 326, 334, 335, 336, 337, 338, 339, 340, 341, 342, 343, 344] (by decide +kernel) (by decide +kernel)) (goodIn_sub (fun _ h => List.mem_cons_of_mem _ (List.mem_append_left _ (List.mem_append_left _ (List.mem_append_right _ h)))) (by decide +kernel))
set_option maxRecDepth 20000 in
theorem gL_act_X5_value : GoodIn wsL_act (wsV RL 60 RX5 yX5_value wsX5_value) := goodIn_app (goodIn_of _ (by decide +kernel)) ggL_act_X5_value
set_option maxRecDepth 20000 in
theorem ggL_act_X5_isWhole : GoodIn wsL_act wsX5_isWhole := goodIn_ca (goodIn_r _ [221, 10, 11, 12, 7, 13, 14, 15, 16, 17, 18, 19, 20, 21, 22, 23, 24, 25, 26, 27, 28, 29, 222, 223, 224, 225, 100, 129, 61, 62, 226, 227, 228, 133, 229, 230, 136, 137, 138, 231, 161, 162, 163, 101, 321, 322, 323, 324, 325, 326, 334, 335, 336, 337, 338, 339, 340, 341, 342, 343, 344, 345, 346] (by decide +kernel) (by decide +kernel)) (goodIn_sub (fun _ h => List.mem_cons_of_mem _ (List.mem_append_left _ (List.mem_append_left _ (List.mem_append_right _ h)))) (by decide +kernel))
set_option maxRecDepth 20000 in
theorem gL_act_X5_isWhole : GoodIn wsL_act (wsV RL 64 RX5 yX5_isWhole wsX5_isWhole) := goodIn_app (goodIn_of _ (by decide +kernel)) ggL_act_X5_isWhole
set_option maxRecDepth 20000 in
theorem ggL_act_X5_find : GoodIn wsL_act wsX5_find := goodIn_ca (goodIn_ca (goodIn_r _ [235, 10, 11, 12, 7, 13, 14, 15, 16, 17, 18, 19, 20, 21, 22, 23, 24, 25, 26, 27, 28, 29, 30, 31, 32, 33, 34, 44, 45, 46, 47, 48, 49, 50, 51, 52, 321, 322, 323, 324, 325, 326, 334, 335, 336, 337, 338, 339, 340, 341, 342, 343, 344] (by decide +kernel) (by decide +kernel)) (goodIn_sub (fun _ h => List.mem_cons_of_mem _ (List.mem_append_left _ (List.mem_append_left _ (List.mem_append_right _ h)))) (by decide +kernel))) (goodIn_sub (fun _ h => List.mem_cons_of_mem _ (List.mem_append_left _ (List.mem_append_right _ h))) (by decide +kernel))
set_option maxRecDepth 20000 in
theorem gL_act_X5_find : GoodIn wsL_act (wsV RL 67 RX5 yX5_find wsX5_find) := goodIn_app (goodIn_of _ (by decide +kernel)) ggL_act_X5_find
set_option maxRecDepth 20000 in
theorem ggL_act_X5_test : GoodIn wsL_act wsX5_test := goodIn_ca (goodIn_ca (goodIn_r _ [239, 240, 30, 31, 7, 32, 33, 34, 241, 242, 243, 244, 39, 40, 245, 246, 247, 248, 249, 250, 251, 252, 253, 82, 83, 321, 322, 323, 324, 325, 326, 347, 348, 349, 350, 351] (by decide +kernel) (by decide +kernel)) (goodIn_sub (fun _ h => List.mem_cons_of_mem _ (List.mem_append_left _ (List.mem_append_right _ h))) (by decide +kernel))) (goodIn_sub (fun _ h => List.mem_cons_of_mem _ (List.mem_append_right _ h)) (by decide +kernel))
set_option maxRecDepth 20000 in
theorem gL_act_X5_test : GoodIn wsL_act (wsV RL 70 RX5 yX5_test wsX5_test) := goodIn_app (goodIn_of _ (by decide +kernel)) ggL_act_X5_test
set_option maxRecDepth 20000 in
theorem ggL_act_X5_join : GoodIn wsL_act wsX5_join := goodIn_ca (goodIn_ca (goodIn_ca (goodIn_r _ [257, 240, 16, 17, 7, 18, 19, 20, 30, 31, 32, 33, 34, 241, 242, 243, 244, 39, 40, 245, 246, 247, 248, 249, 250, 251, 252, 253, 82, 83, 321, 322, 323, 324, 325, 326, 347, 348, 349, 350, 351] (by decide +kernel) (by decide +kernel)) (goodIn_sub (fun _ h => List.mem_cons_of_mem _ (List.mem_append_left _ (List.mem_append_left _ (List.mem_append_right _ h)))) (by decide +kernel))) (goodIn_sub (fun _ h => List.mem_cons_of_mem _ (List.mem_append_left _ (List.mem_append_right _ h))) (by decide +kernel))) (goodIn_sub (fun _ h => List.mem_cons_of_mem _ (List.mem_append_right _ h)) (by decide +kernel))
set_option maxRecDepth 20000 in
theorem gL_act_X5_join : GoodIn wsL_act (wsV RL 73 RX5 yX5_join wsX5_join) := goodIn_app (goodIn_of _ (by decide +kernel)) ggL_act_X5_join
set_option maxRecDepth 20000 in
theorem ggL_act_X5_holds : GoodIn wsL_act wsX5_holds := goodIn_ca (goodIn_r _ [261, 240, 10, 11, 12, 7, 13, 14, 15, 16, 17, 18, 19, 20, 21, 22, 23, 24, 25, 26, 27, 28, 29, 262, 263, 264, 248, 265, 251, 252, 253, 266, 267, 268, 269, 270, 126, 127, 128, 129, 100, 61, 62, 130, 131, 132, 133, 134, 135, 136, 137, 138, 271, 161, 162, 163, 101, 272, 273, 274, 275, 276, 277, 278, 279, 280, 321, 322, 323, 324, 325, 326, 347, 348, 349, 350, 351, 334, 335, 336, 337, 338, 339, 340, 341, 342, 343, 344, 345, 346] (by decide +kernel) (by decide +kernel)) (goodIn_sub (fun _ h => List.mem_cons_of_mem _ (List.mem_append_left _ (List.mem_append_left _ (List.mem_append_right _ h)))) (by decide +kernel))
set_option maxRecDepth 20000 in
theorem gL_act_X5_holds : GoodIn wsL_act (wsV RL 76 RX5 yX5_holds wsX5_holds) := goodIn_app (goodIn_of _ (by decide +kernel)) ggL_act_X5_holds
set_option maxRecDepth 20000 in
theorem ggL_act_X5_search : GoodIn wsL_act wsX5_search := goodIn_ca (goodIn_ca (goodIn_r _ [284, 19, 20, 240, 285, 10, 11, 12, 7, 13, 14, 15, 16, 17, 18, 21, 22, 23, 24, 25, 26, 27, 28, 29, 30, 31, 32, 33, 34, 286, 287, 288, 289, 48, 290, 291, 292, 293, 294, 295, 296, 297, 298, 299, 300, 211, 212, 213, 49, 61, 62, 301, 302, 303, 304, 262, 263, 264, 248, 265, 251, 252, 253, 266, 267, 268, 269, 270, 126, 127, 128, 129, 100, 130, 131, 132, 133, 134, 135, 136, 137, 138, 271, 161, 162, 163, 101, 272, 273, 274, 275, 276, 277, 278, 279, 280, 305, 306, 307, 308, 309, 310, 148, 149, 150, 311, 312, 313, 314, 315, 316, 317, 318, 319, 320, 147, 321, 322, 323, 324, 325, 326, 347, 348, 349, 350, 351, 334, 335, 336, 337, 338, 339, 340, 341, 342, 343, 344, 352, 353, 345, 346] (by decide +kernel) (by decide +kernel)) (goodIn_sub (fun _ h => List.mem_cons_of_mem _ (List.mem_append_left _ (List.mem_append_left _ (List.mem_append_right _ h)))) (by decide +kernel))) (goodIn_sub (fun _ h => List.mem_cons_of_mem _ (List.mem_append_left _ (List.mem_append_right _ h))) (by decide +kernel))
set_option maxRecDepth 20000 in
theorem gL_act_X5_search : GoodIn wsL_act (wsV RL 79 RX5 yX5_search wsX5_search) := goodIn_app (goodIn_of _ (by decide +kernel)) ggL_act_X5_search
end
section
set_option maxRecDepth 20000 in
theorem ggL_refuses_X5_changes : GoodIn wsL_refuses wsX5_changes := goodIn_r _ [6, 7, 379, 380, 381, 382, 383, 384, 385, 386, 387, 388, 389, 390, 391] (by decide +kernel) (by decide +kernel)
set_option maxRecDepth 20000 in
theorem gL_refuses_X5_changes : GoodIn wsL_refuses (wsV RL 83 RX5 yX5_changes wsX5_changes) := goodIn_app (goodIn_of _ (by decide +kernel)) ggL_refuses_X5_changes
set_option maxRecDepth 20000 in
theorem ggL_refuses_X5_entries : GoodIn wsL_refuses wsX5_entries := goodIn_ca (goodIn_r _ [11, 12, 13, 14, 5, 15, 16, 17, 18, 19, 20, 21, 22, 392, 393, 394, 395, 396, 397, 398, 399, 400, 401, 402, 379, 380, 381, 382, 383, 384] (by decide +kernel) (by decide +kernel)) (goodIn_sub (fun _ h => List.mem_cons_of_mem _ (List.mem_append_left _ (List.mem_append_left _ (List.mem_append_right _ h)))) (by decide +kernel))
set_option maxRecDepth 20000 in
theorem gL_refuses_X5_entries : GoodIn wsL_refuses (wsV RL 48 RX5 yX5_entries wsX5_entries) := goodIn_app (goodIn_of _ (by decide +kernel)) ggL_refuses_X5_entries
set_option maxRecDepth 20000 in
theorem ggL_refuses_X5_areAlike : GoodIn wsL_refuses wsX5_areAlike := goodIn_r _ [26, 16, 17, 27, 28, 29, 30, 31, 32, 33, 34, 35, 36, 37, 38, 39, 40, 41, 42, 43, 5, 44, 45, 46, 47, 48, 49, 50, 51, 52, 53, 54, 379, 380, 381, 382, 383, 384, 392, 393, 394, 395, 396, 397, 398, 399, 400, 401, 402] (by decide +kernel) (by decide +kernel)
set_option maxRecDepth 20000 in
theorem gL_refuses_X5_areAlike : GoodIn wsL_refuses (wsV RL 87 RX5 yX5_areAlike wsX5_areAlike) := goodIn_app (goodIn_of _ (by decide +kernel)) ggL_refuses_X5_areAlike
set_option maxRecDepth 20000 in
theorem ggL_refuses_L_kind : GoodIn wsL_refuses wsL_kind := goodIn_ca (goodIn_ca (goodIn_ca (goodIn_r _ [58, 59, 60, 61, 62, 63, 64, 5, 65, 66, 67, 7, 68, 18, 19, 20, 21, 22, 69, 70, 71, 72, 73, 74, 75, 76, 77, 78, 79, 80, 81, 82, 379, 380, 381, 382, 383, 384, 385, 386, 387, 388, 389, 390, 391, 403, 404] (by decide +kernel) (by decide +kernel)) (goodIn_sub (fun _ h => List.mem_cons_of_mem _ (List.mem_append_left _ (List.mem_append_right _ h))) (by decide +kernel))) (goodIn_sub (fun _ h => List.mem_cons_of_mem _ (List.mem_append_left _ (List.mem_append_left _ (List.mem_append_right _ h)))) (by decide +kernel))) (goodIn_sub (fun _ h => List.mem_cons_of_mem _ (List.mem_append_right _ h)) (by decide +kernel))
set_option maxRecDepth 20000 in
theorem gL_refuses_L_kind : GoodIn wsL_refuses (va_wsS RL 92 yL_kind wsL_kind) := goodIn_app (goodIn_of _ (by decide +kernel)) ggL_refuses_L_kind
set_option maxRecDepth 20000 in
theorem ggL_refuses_L_act : GoodIn wsL_refuses wsL_act := goodIn_ca (goodIn_ca (goodIn_ca (goodIn_r _ [85, 59, 60, 61, 86, 87, 88, 5, 89, 7, 12, 13, 14, 15, 16, 17, 18, 19, 20, 21, 22, 90, 91, 92, 93, 94, 95, 30, 96, 32, 69, 70, 71, 72, 73, 97, 98, 99, 100, 66, 67, 101, 102, 103, 104, 105, 106, 107, 49, 54, 108, 109, 110, 111, 112, 113, 114, 115, 116, 117, 118, 43, 44, 119, 120, 121, 122, 123, 124, 125, 126, 127, 128, 129, 130, 131, 132, 133, 134, 135, 136, 137, 81, 82, 138, 139, 140, 141, 142, 143, 144, 145, 146, 147, 148, 149, 150, 151, 152, 153, 37, 42, 154, 155, 156, 157, 158, 159, 160, 161, 162, 163, 164, 165, 166, 167, 168, 169, 170, 171, 172, 173, 174, 175, 176, 177, 178, 179, 180, 181, 182, 183, 184, 77, 185, 80, 186, 187, 188, 189, 190, 191, 192, 193, 194, 195, 196, 45, 46, 47, 48, 197, 198, 199, 200, 201, 202, 203, 204, 205, 206, 39, 40, 41, 207, 208, 209, 210, 211, 212, 213, 214, 215, 216, 217, 218, 219, 220, 221, 222, 223, 224, 225, 226, 227, 228, 229, 230, 231, 232, 233, 234, 235, 236, 8, 9, 10, 11, 237, 238, 239, 240, 241, 242, 243, 244, 245, 246, 247, 248, 249, 51, 52, 53, 250, 251, 252, 253, 254, 255, 256, 257, 258, 259, 260, 261, 262, 263, 264, 265, 79, 38, 266, 267, 268, 269, 270, 271, 272, 273, 274, 275, 276, 277, 278, 279, 280, 281, 282, 283, 284, 285, 286, 287, 288, 289, 290, 291, 292, 293, 294, 295, 296, 297, 298, 299, 300, 301, 302, 303, 304, 305, 306, 307, 308, 309, 310, 311, 312, 313, 314, 315, 316, 317, 318, 319, 320, 321, 322, 323, 324, 325, 326, 327, 328, 329, 330, 331, 332, 333, 50, 334, 335, 336, 337, 338, 339, 340, 341, 342, 343, 344, 345, 346, 347, 348, 349, 350, 351, 352, 353, 379, 380, 381, 382, 383, 384, 385, 386, 387, 388, 389, 390, 391, 392, 393, 394, 395, 396, 397, 398, 399, 400, 401, 402, 403, 404, 405, 406, 407, 408, 409, 410, 411] (by decide +kernel) (by decide +kernel)) (goodIn_sub (fun _ h => List.mem_cons_of_mem _ (List.mem_append_left _ (List.mem_append_left _ (List.mem_append_right _ h)))) (by decide +kernel))) (goodIn_sub (fun _ h => List.mem_cons_of_mem _ (List.mem_append_right _ h)) (by decide +kernel))) (goodIn_sub (fun _ h => List.mem_cons_of_mem _ (List.mem_append_left _ (List.mem_append_right _ h))) (by decide +kernel))
set_option maxRecDepth 20000 in
theorem gL_refuses_L_act : GoodIn wsL_refuses (va_wsS RL 98 yL_act wsL_act) := goodIn_app (goodIn_of _ (by decide +kernel)) ggL_refuses_L_act
set_option maxRecDepth 20000 in
theorem ggL_refuses_X5_isThere : GoodIn wsL_refuses wsX5_isThere := goodIn_ca (goodIn_r _ [240, 12, 13, 14, 5, 15, 16, 17, 18, 19, 20, 21, 22, 93, 94, 95, 30, 96, 32, 379, 380, 381, 382, 383, 384, 392, 393, 394, 395, 396, 397, 398, 399, 400, 401, 402] (by decide +kernel) (by decide +kernel)) (goodIn_sub (fun _ h => List.mem_cons_of_mem _ (List.mem_append_left _ (List.mem_append_left _ (List.mem_append_right _ h)))) (by decide +kernel))
set_option maxRecDepth 20000 in
theorem gL_refuses_X5_isThere : GoodIn wsL_refuses (wsV RL 51 RX5 yX5_isThere wsX5_isThere) := goodIn_app (goodIn_of _ (by decide +kernel)) ggL_refuses_X5_isThere
set_option maxRecDepth 20000 in
theorem ggL_refuses_L_right : GoodIn wsL_refuses wsL_right := goodIn_ca (goodIn_ca (goodIn_r _ [356, 59, 60, 357, 358, 359, 5, 360, 319, 18, 19, 20, 21, 22, 69, 70, 71, 72, 73, 361, 362, 363, 327, 364, 342, 81, 82, 379, 380, 381, 382, 383, 384, 410, 411] (by decide +kernel) (by decide +kernel)) (goodIn_sub (fun _ h => List.mem_cons_of_mem _ (List.mem_append_left _ (List.mem_append_left _ (List.mem_append_right _ h)))) (by decide +kernel))) (goodIn_sub (fun _ h => List.mem_cons_of_mem _ (List.mem_append_right _ h)) (by decide +kernel))
set_option maxRecDepth 20000 in
theorem gL_refuses_L_right : GoodIn wsL_refuses (va_wsS RL 102 yL_right wsL_right) := goodIn_app (goodIn_of _ (by decide +kernel)) ggL_refuses_L_right
set_option maxRecDepth 20000 in
theorem ggL_refuses_L_refer : GoodIn wsL_refuses wsL_refer := goodIn_ca (goodIn_r _ [367, 59, 368, 369, 370, 5, 371, 319, 18, 19, 20, 21, 22, 372, 373, 374, 327, 375, 329, 379, 380, 381, 382, 383, 384, 410, 411] (by decide +kernel) (by decide +kernel)) (goodIn_sub (fun _ h => List.mem_cons_of_mem _ (List.mem_append_left _ (List.mem_append_left _ (List.mem_append_right _ h)))) (by decide +kernel))
set_option maxRecDepth 20000 in
theorem gL_refuses_L_refer : GoodIn wsL_refuses (va_wsS RL 105 yL_refer wsL_refer) := goodIn_app (goodIn_of _ (by decide +kernel)) ggL_refuses_L_refer
set_option maxRecDepth 20000 in
theorem ggL_refuses_L_search : GoodIn wsL_refuses wsL_search := goodIn_ca (goodIn_ca (goodIn_r _ [378, 59, 60, 315, 316, 317, 5, 318, 21, 22, 274, 319, 12, 13, 14, 15, 16, 17, 18, 19, 20, 90, 91, 92, 93, 94, 95, 30, 96, 32, 69, 70, 71, 72, 73, 320, 321, 322, 323, 49, 324, 325, 326, 327, 328, 329, 330, 331, 332, 333, 50, 51, 52, 53, 54, 43, 44, 334, 335, 336, 337, 296, 297, 298, 282, 299, 285, 286, 287, 300, 301, 302, 303, 304, 178, 179, 180, 181, 37, 182, 183, 184, 77, 185, 80, 186, 187, 188, 305, 39, 40, 41, 42, 306, 307, 308, 309, 310, 311, 312, 313, 314, 338, 339, 340, 341, 342, 343, 46, 47, 48, 344, 345, 346, 347, 348, 349, 350, 351, 352, 353, 45, 379, 380, 381, 382, 383, 384, 405, 406, 407, 408, 409, 392, 393, 394, 395, 396, 397, 398, 399, 400, 401, 402, 410, 411, 403, 404] (by decide +kernel) (by decide +kernel)) (goodIn_sub (fun _ h => List.mem_cons_of_mem _ (List.mem_append_left _ (List.mem_append_left _ (List.mem_append_right _ h)))) (by decide +kernel))) (goodIn_sub (fun _ h => List.mem_cons_of_mem _ (List.mem_append_right _ h)) (by decide +kernel))
set_option maxRecDepth 20000 in
theorem gL_refuses_L_search : GoodIn wsL_refuses (va_wsS RL 108 yL_search wsL_search) := goodIn_app (goodIn_of _ (by decide +kernel)) ggL_refuses_L_search
end
section
set_option maxRecDepth 20000 in
theorem ggL_masters_X5_init : GoodIn wsL_masters wsX5_init := goodIn_r _ [6, 7, 8, 9, 10, 11, 12, 13, 14, 15, 16, 17, 18, 19, 20, 21, 22, 23, 24, 25, 26, 27, 28, 29, 30, 31, 32, 33, 34, 35, 36, 37, 38, 39, 40, 41, 42, 43, 44, 45, 46, 47, 48, 49, 50, 51, 52, 53, 54, 55, 56, 57, 58, 59, 60, 61, 62, 63, 64, 65, 66, 67, 68, 69, 70, 71, 72, 73, 74, 75, 76, 77, 78, 79, 80, 81, 82, 83, 84, 431, 432, 425, 426, 427, 428, 429, 430, 433, 434, 435, 436, 437, 438, 439, 440, 441, 442, 443, 444, 445, 446, 447, 448, 449, 450, 451, 452, 453, 454, 455, 456, 457] (by decide +kernel) (by decide +kernel)
set_option maxRecDepth 20000 in
theorem gL_masters_X5_init : GoodIn wsL_masters (wsX5_init) := ggL_masters_X5_init
set_option maxRecDepth 20000 in
theorem ggL_masters_X5_changes : GoodIn wsL_masters wsX5_changes := goodIn_r _ [88, 17, 425, 426, 427, 428, 429, 430, 433, 434, 435, 436, 437, 438, 439] (by decide +kernel) (by decide +kernel)
set_option maxRecDepth 20000 in
theorem gL_masters_X5_changes : GoodIn wsL_masters (wsV RL 83 RX5 yX5_changes wsX5_changes) := goodIn_app (goodIn_of _ (by decide +kernel)) ggL_masters_X5_changes
set_option maxRecDepth 20000 in
theorem ggL_masters_X5_entries : GoodIn wsL_masters wsX5_entries := goodIn_ca (goodIn_r _ [92, 93, 94, 95, 3, 96, 21, 22, 97, 98, 99, 100, 101, 440, 441, 442, 443, 444, 445, 446, 447, 448, 449, 450, 425, 426, 427, 428, 429, 430] (by decide +kernel) (by decide +kernel)) (goodIn_sub (fun _ h => List.mem_cons_of_mem _ (List.mem_append_left _ (List.mem_append_left _ (List.mem_append_right _ h)))) (by decide +kernel))
set_option maxRecDepth 20000 in
theorem gL_masters_X5_entries : GoodIn wsL_masters (wsV RL 48 RX5 yX5_entries wsX5_entries) := goodIn_app (goodIn_of _ (by decide +kernel)) ggL_masters_X5_entries
set_option maxRecDepth 20000 in
theorem ggL_masters_X5_areAlike : GoodIn wsL_masters wsX5_areAlike := goodIn_r _ [105, 21, 22, 106, 107, 108, 20, 109, 57, 110, 111, 112, 113, 60, 114, 115, 116, 117, 61, 118, 3, 119, 120, 121, 122, 123, 58, 124, 125, 126, 127, 59, 425, 426, 427, 428, 429, 430, 440, 441, 442, 443, 444, 445, 446, 447, 448, 449, 450] (by decide +kernel) (by decide +kernel)
set_option maxRecDepth 20000 in
theorem gL_masters_X5_areAlike : GoodIn wsL_masters (wsV RL 87 RX5 yX5_areAlike wsX5_areAlike) := goodIn_app (goodIn_of _ (by decide +kernel)) ggL_masters_X5_areAlike
set_option maxRecDepth 20000 in
theorem ggL_masters_L_at : GoodIn wsL_masters wsL_at := goodIn_ca (goodIn_r _ [131, 132, 133, 134, 3, 135, 93, 94, 95, 96, 21, 22, 97, 98, 99, 100, 101, 136, 137, 138, 20, 139, 57, 140, 141, 142, 143, 144, 145, 146, 147, 121, 122, 123, 58, 118, 119, 148, 149, 150, 151, 152, 125, 126, 127, 59, 425, 426, 427, 428, 429, 430, 440, 441, 442, 443, 444, 445, 446, 447, 448, 449, 450] (by decide +kernel) (by decide +kernel)) (goodIn_sub (fun _ h => List.mem_cons_of_mem _ (List.mem_append_left _ (List.mem_append_left _ (List.mem_append_right _ h)))) (by decide +kernel))
set_option maxRecDepth 20000 in
theorem gL_masters_L_at : GoodIn wsL_masters (va_wsS RL 112 yL_at wsL_at) := goodIn_app (goodIn_of _ (by decide +kernel)) ggL_masters_L_at
set_option maxRecDepth 20000 in
theorem ggL_masters_X5_isThere : GoodIn wsL_masters wsX5_isThere := goodIn_ca (goodIn_r _ [135, 93, 94, 95, 3, 96, 21, 22, 97, 98, 99, 100, 101, 136, 137, 138, 20, 139, 57, 425, 426, 427, 428, 429, 430, 440, 441, 442, 443, 444, 445, 446, 447, 448, 449, 450] (by decide +kernel) (by decide +kernel)) (goodIn_sub (fun _ h => List.mem_cons_of_mem _ (List.mem_append_left _ (List.mem_append_left _ (List.mem_append_right _ h)))) (by decide +kernel))
set_option maxRecDepth 20000 in
theorem gL_masters_X5_isThere : GoodIn wsL_masters (wsV RL 51 RX5 yX5_isThere wsX5_isThere) := goodIn_app (goodIn_of _ (by decide +kernel)) ggL_masters_X5_isThere
set_option maxRecDepth 20000 in
theorem ggL_masters_X5_find : GoodIn wsL_masters wsX5_find := goodIn_ca (goodIn_ca (goodIn_r _ [156, 93, 94, 95, 3, 96, 21, 22, 97, 98, 99, 100, 101, 144, 145, 146, 136, 137, 138, 20, 139, 57, 157, 158, 159, 160, 161, 162, 163, 164, 165, 58, 59, 166, 167, 168, 425, 426, 427, 428, 429, 430, 440, 441, 442, 443, 444, 445, 446, 447, 448, 449, 450] (by decide +kernel) (by decide +kernel)) (goodIn_sub (fun _ h => List.mem_cons_of_mem _ (List.mem_append_left _ (List.mem_append_left _ (List.mem_append_right _ h)))) (by decide +kernel))) (goodIn_sub (fun _ h => List.mem_cons_of_mem _ (List.mem_append_left _ (List.mem_append_right _ h))) (by decide +kernel))
set_option maxRecDepth 20000 in
theorem gL_masters_X5_find : GoodIn wsL_masters (wsV RL 67 RX5 yX5_find wsX5_find) := goodIn_app (goodIn_of _ (by decide +kernel)) ggL_masters_X5_find
set_option maxRecDepth 20000 in
theorem ggL_masters_L_refuses_r1 : GoodIn wsL_masters wsL_refuses_r1 := goodIn_r wsL_refuses_r1 [172, 85, 86, 87, 3, 88, 17, 89, 90, 91, 92, 93, 94, 95, 96, 21, 22, 97, 98, 99, 100, 101, 102, 103] (by decide +kernel) (by decide +kernel)
set_option maxRecDepth 20000 in
theorem ggL_masters_L_refuses_r2 : GoodIn wsL_masters wsL_refuses_r2 := goodIn_r wsL_refuses_r2 [104, 105, 106, 107, 108, 20, 109, 57, 110, 111, 112, 113, 60, 114, 115, 116, 117, 61, 118, 119, 120, 121, 122, 123] (by decide +kernel) (by decide +kernel)
set_option maxRecDepth 20000 in
theorem ggL_masters_L_refuses_r3 : GoodIn wsL_masters wsL_refuses_r3 := goodIn_r wsL_refuses_r3 [58, 124, 125, 126, 127, 59, 173, 174, 130, 175, 176, 177, 178, 179, 180, 181, 182, 183, 184, 13, 157, 158, 159, 160] (by decide +kernel) (by decide +kernel)
set_option maxRecDepth 20000 in
theorem ggL_masters_L_refuses_r4 : GoodIn wsL_masters wsL_refuses_r4 := goodIn_r wsL_refuses_r4 [161, 185, 186, 187, 12, 188, 36, 37, 189, 190, 191, 192, 193, 194, 195, 196, 197, 144, 145, 146, 136, 137, 138, 139] (by decide +kernel) (by decide +kernel)
set_option maxRecDepth 20000 in
theorem ggL_masters_L_refuses_r5 : GoodIn wsL_masters wsL_refuses_r5 := goodIn_r wsL_refuses_r5 [198, 199, 200, 201, 202, 203, 204, 162, 163, 164, 165, 166, 167, 168, 205, 206, 207, 208, 209, 63, 55, 62, 210, 211] (by decide +kernel) (by decide +kernel)
set_option maxRecDepth 20000 in
theorem ggL_masters_L_refuses_r6 : GoodIn wsL_masters wsL_refuses_r6 := goodIn_r wsL_refuses_r6 [212, 16, 213, 46, 214, 215, 216, 217, 218, 219, 220, 221, 45, 47, 48, 49, 50, 222, 223, 224, 225, 226, 227, 228] (by decide +kernel) (by decide +kernel)
end
section
set_option maxRecDepth 20000 in
theorem ggL_masters_L_refuses_r7 : GoodIn wsL_masters wsL_refuses_r7 := goodIn_r wsL_refuses_r7 [229, 230, 231, 232, 233, 65, 66, 67, 68, 69, 70, 39, 40, 41, 234, 235, 236, 237, 238, 239, 240, 241, 242, 243] (by decide +kernel) (by decide +kernel)
set_option maxRecDepth 20000 in
theorem ggL_masters_L_refuses_r8 : GoodIn wsL_masters wsL_refuses_r8 := goodIn_r wsL_refuses_r8 [244, 245, 246, 247, 248, 249, 250, 251, 252, 253, 254, 255, 64, 256, 257, 258, 259, 260, 261, 262, 263, 264, 265, 266] (by decide +kernel) (by decide +kernel)
set_option maxRecDepth 20000 in
theorem ggL_masters_L_refuses_r9 : GoodIn wsL_masters wsL_refuses_r9 := goodIn_r wsL_refuses_r9 [267, 268, 269, 270, 271, 272, 273, 274, 275, 276, 277, 278, 279, 280, 281, 282, 283, 284, 285, 286, 287, 288, 147, 289] (by decide +kernel) (by decide +kernel)
set_option maxRecDepth 20000 in
theorem ggL_masters_L_refuses_r10 : GoodIn wsL_masters wsL_refuses_r10 := goodIn_r wsL_refuses_r10 [290, 291, 292, 293, 294, 295, 296, 297, 298, 299, 300, 301, 302, 303, 304, 305, 306, 307, 308, 309, 132, 133, 134, 135] (by decide +kernel) (by decide +kernel)
set_option maxRecDepth 20000 in
theorem ggL_masters_L_refuses_r11 : GoodIn wsL_masters wsL_refuses_r11 := goodIn_r wsL_refuses_r11 [140, 141, 142, 143, 148, 149, 150, 151, 152, 310, 311, 312, 313, 314, 315, 316, 317, 318, 319, 320, 321, 322, 323, 324] (by decide +kernel) (by decide +kernel)
set_option maxRecDepth 20000 in
theorem ggL_masters_L_refuses_r12 : GoodIn wsL_masters wsL_refuses_r12 := goodIn_r wsL_refuses_r12 [325, 153, 154, 155, 156, 326, 327, 328, 329, 30, 330, 331, 332, 333, 334, 335, 336, 29, 337, 338, 81, 82, 83, 339] (by decide +kernel) (by decide +kernel)
set_option maxRecDepth 20000 in
theorem ggL_masters_L_refuses_r13 : GoodIn wsL_masters wsL_refuses_r13 := goodIn_r wsL_refuses_r13 [340, 341, 342, 343, 344, 345, 346, 347, 348, 349, 350, 84, 351, 352, 353, 354, 355, 356, 357, 358, 359, 360, 361, 362] (by decide +kernel) (by decide +kernel)
set_option maxRecDepth 20000 in
theorem ggL_masters_L_refuses_r14 : GoodIn wsL_masters wsL_refuses_r14 := goodIn_r wsL_refuses_r14 [363, 364, 365, 366, 367, 368, 26, 369, 370, 371, 372, 373, 374, 375, 25, 376, 76, 377, 378, 379, 380, 381, 382, 383] (by decide +kernel) (by decide +kernel)
set_option maxRecDepth 20000 in
theorem ggL_masters_L_refuses_r15 : GoodIn wsL_masters wsL_refuses_r15 := goodIn_r wsL_refuses_r15 [384, 385, 386, 387, 388, 75, 389, 390, 391, 392, 393, 394, 395, 396, 397, 398, 399, 400, 401, 402, 403, 404, 405, 406] (by decide +kernel) (by decide +kernel)
set_option maxRecDepth 20000 in
theorem ggL_masters_L_refuses_r16 : GoodIn wsL_masters wsL_refuses_r16 := goodIn_r wsL_refuses_r16 [407, 408, 409, 410, 411, 412, 413, 414, 415, 416, 417, 418, 419, 420, 421, 422, 423, 424] (by decide +kernel) (by decide +kernel)
set_option maxRecDepth 20000 in
theorem ggL_masters_L_refuses_wsX50 : GoodIn wsL_masters wsX50 := goodIn_r wsX50 [425, 426, 427, 428, 429, 430] (by decide +kernel) (by decide +kernel)
set_option maxRecDepth 20000 in
theorem ggL_masters_L_refuses_wsX20 : GoodIn wsL_masters wsX20 := goodIn_r wsX20 [433, 434, 435, 436, 437, 438, 439] (by decide +kernel) (by decide +kernel)
set_option maxRecDepth 20000 in
theorem ggL_masters_L_refuses_wsX40 : GoodIn wsL_masters wsX40 := goodIn_r wsX40 [440, 441, 442, 443, 444, 445, 446, 447, 448, 449, 450] (by decide +kernel) (by decide +kernel)
set_option maxRecDepth 20000 in
theorem ggL_masters_L_refuses_wsX00 : GoodIn wsL_masters wsX00 := goodIn_r wsX00 [431, 432] (by decide +kernel) (by decide +kernel)
set_option maxRecDepth 20000 in
theorem ggL_masters_L_refuses_wsX10 : GoodIn wsL_masters wsX10 := goodIn_r wsX10 [453, 454, 455, 456, 457] (by decide +kernel) (by decide +kernel)
set_option maxRecDepth 20000 in
theorem ggL_masters_L_refuses_wsX30 : GoodIn wsL_masters wsX30 := goodIn_r wsX30 [451, 452] (by decide +kernel) (by decide +kernel)
set_option maxRecDepth 20000 in
theorem ggL_masters_L_refuses : GoodIn wsL_masters wsL_refuses := goodIn_ca (goodIn_ca (goodIn_ca (goodIn_cons (List.mem_of_getElem? (i := 171) rfl) rfl (goodIn_app (goodIn_app (goodIn_app (goodIn_app (goodIn_app (goodIn_app (goodIn_app ggL_masters_L_refuses_r1 (goodIn_app ggL_masters_L_refuses_r2 (goodIn_app ggL_masters_L_refuses_r3 (goodIn_app ggL_masters_L_refuses_r4 (goodIn_app ggL_masters_L_refuses_r5 (goodIn_app ggL_masters_L_refuses_r6 (goodIn_app ggL_masters_L_refuses_r7 (goodIn_app ggL_masters_L_refuses_r8 (goodIn_app ggL_masters_L_refuses_r9 (goodIn_app ggL_masters_L_refuses_r10 (goodIn_app ggL_masters_L_refuses_r11 (goodIn_app ggL_masters_L_refuses_r12 (goodIn_app ggL_masters_L_refuses_r13 (goodIn_app ggL_masters_L_refuses_r14 (goodIn_app ggL_masters_L_refuses_r15 ggL_masters_L_refuses_r16))))))))))))))) ggL_masters_L_refuses_wsX50) ggL_masters_L_refuses_wsX20) ggL_masters_L_refuses_wsX40) ggL_masters_L_refuses_wsX00) ggL_masters_L_refuses_wsX10) ggL_masters_L_refuses_wsX30)) (goodIn_sub (fun _ h => List.mem_cons_of_mem _ (List.mem_append_left _ (List.mem_append_left _ (List.mem_append_right _ h)))) (by decide +kernel))) (goodIn_sub (fun _ h => List.mem_cons_of_mem _ (List.mem_append_right _ h)) (by decide +kernel))) (goodIn_sub (fun _ h => List.mem_cons_of_mem _ (List.mem_append_left _ (List.mem_append_right _ h))) (by decide +kernel))
set_option maxRecDepth 20000 in
theorem gL_masters_L_refuses : GoodIn wsL_masters (va_wsS RL 116 yL_refuses wsL_refuses) := goodIn_app (goodIn_of _ (by decide +kernel)) ggL_masters_L_refuses
set_option maxRecDepth 20000 in
theorem ggL_masters_X5_add : GoodIn wsL_masters wsX5_add := goodIn_ca (goodIn_ca (goodIn_ca (goodIn_r _ [197, 17, 93, 94, 95, 3, 96, 21, 22, 97, 98, 99, 100, 101, 144, 145, 146, 136, 137, 138, 20, 139, 57, 157, 158, 159, 160, 161, 198, 199, 200, 201, 183, 184, 202, 203, 204, 162, 163, 164, 165, 58, 59, 166, 167, 168, 205, 206, 207, 208, 209, 63, 55, 62, 118, 119, 210, 211, 212, 16, 213, 46, 214, 215, 216, 217, 218, 219, 220, 221, 45, 47, 48, 49, 50, 189, 190, 222, 223, 224, 225, 226, 227, 228, 229, 230, 231, 232, 233, 65, 66, 67, 68, 60, 61, 69, 70, 39, 40, 41, 234, 235, 236, 237, 238, 239, 240, 241, 242, 243, 244, 245, 246, 247, 248, 249, 250, 251, 252, 253, 254, 255, 64, 256, 257, 258, 12, 259, 37, 260, 261, 262, 263, 264, 265, 266, 267, 268, 269, 270, 120, 121, 122, 123, 271, 272, 273, 274, 425, 426, 427, 428, 429, 430, 433, 434, 435, 436, 437, 438, 439, 440, 441, 442, 443, 444, 445, 446, 447, 448, 449, 450, 431, 432] (by decide +kernel) (by decide +kernel)) (goodIn_sub (fun _ h => List.mem_cons_of_mem _ (List.mem_append_left _ (List.mem_append_left _ (List.mem_append_right _ h)))) (by decide +kernel))) (goodIn_sub (fun _ h => List.mem_cons_of_mem _ (List.mem_append_left _ (List.mem_append_right _ h))) (by decide +kernel))) (goodIn_sub (fun _ h => List.mem_cons_of_mem _ (List.mem_append_right _ h)) (by decide +kernel))
set_option maxRecDepth 20000 in
theorem gL_masters_X5_add : GoodIn wsL_masters (wsV RL 26 RX5 yX5_add wsX5_add) := goodIn_app (goodIn_of _ (by decide +kernel)) ggL_masters_X5_add
end
section
set_option maxRecDepth 20000 in
theorem ggL_masters_L_act : GoodIn wsL_masters wsL_act := goodIn_ca (goodIn_ca (goodIn_ca (goodIn_r _ [193, 176, 177, 178, 194, 195, 196, 3, 197, 17, 93, 94, 95, 96, 21, 22, 97, 98, 99, 100, 101, 144, 145, 146, 136, 137, 138, 20, 139, 57, 157, 158, 159, 160, 161, 198, 199, 200, 201, 183, 184, 202, 203, 204, 162, 163, 164, 165, 58, 59, 166, 167, 168, 205, 206, 207, 208, 209, 63, 55, 62, 118, 119, 210, 211, 212, 16, 213, 46, 214, 215, 216, 217, 218, 219, 220, 221, 45, 47, 48, 49, 50, 189, 190, 222, 223, 224, 225, 226, 227, 228, 229, 230, 231, 232, 233, 65, 66, 67, 68, 60, 61, 69, 70, 39, 40, 41, 234, 235, 236, 237, 238, 239, 240, 241, 242, 243, 244, 245, 246, 247, 248, 249, 250, 251, 252, 253, 254, 255, 64, 256, 257, 258, 12, 259, 37, 260, 261, 262, 263, 264, 265, 266, 267, 268, 269, 270, 120, 121, 122, 123, 271, 272, 273, 274, 275, 276, 277, 278, 279, 280, 115, 116, 117, 281, 282, 283, 284, 285, 286, 287, 288, 147, 289, 290, 291, 292, 293, 294, 295, 296, 297, 298, 299, 300, 301, 302, 303, 304, 305, 306, 307, 308, 309, 89, 90, 91, 92, 132, 133, 134, 135, 140, 141, 142, 143, 148, 149, 150, 151, 152, 125, 126, 127, 310, 311, 312, 313, 314, 315, 316, 317, 318, 319, 320, 321, 322, 323, 324, 325, 36, 114, 153, 154, 155, 156, 326, 327, 328, 329, 30, 330, 331, 332, 333, 334, 335, 336, 29, 337, 338, 81, 82, 83, 339, 340, 341, 342, 343, 344, 345, 346, 347, 348, 349, 350, 84, 351, 352, 353, 354, 355, 356, 357, 358, 359, 360, 361, 362, 363, 364, 365, 366, 367, 368, 26, 369, 370, 371, 372, 373, 374, 375, 25, 376, 76, 377, 378, 379, 380, 124, 381, 382, 383, 384, 385, 386, 387, 388, 75, 389, 390, 391, 392, 393, 394, 395, 396, 397, 398, 399, 425, 426, 427, 428, 429, 430, 433, 434, 435, 436, 437, 438, 439, 440, 441, 442, 443, 444, 445, 446, 447, 448, 449, 450, 431, 432, 453, 454, 455, 456, 457, 451, 452] (by decide +kernel) (by decide +kernel)) (goodIn_sub (fun _ h => List.mem_cons_of_mem _ (List.mem_append_left _ (List.mem_append_left _ (List.mem_append_right _ h)))) (by decide +kernel))) (goodIn_sub (fun _ h => List.mem_cons_of_mem _ (List.mem_append_left _ (List.mem_append_right _ h))) (by decide +kernel))) (goodIn_sub (fun _ h => List.mem_cons_of_mem _ (List.mem_append_right _ h)) (by decide +kernel))
set_option maxRecDepth 20000 in
theorem gL_masters_L_act : GoodIn wsL_masters (va_wsS RL 98 yL_act wsL_act) := goodIn_app (goodIn_of _ (by decide +kernel)) ggL_masters_L_act
set_option maxRecDepth 20000 in
theorem ggL_masters_X5_carry : GoodIn wsL_masters wsX5_carry := goodIn_ca (goodIn_r _ [300, 17, 97, 98, 3, 99, 100, 101, 93, 94, 95, 96, 21, 22, 301, 302, 303, 20, 304, 209, 55, 222, 223, 224, 225, 226, 227, 228, 229, 63, 118, 119, 230, 231, 232, 16, 233, 46, 189, 190, 65, 66, 67, 68, 57, 58, 59, 60, 61, 69, 70, 39, 40, 41, 234, 235, 236, 237, 238, 239, 240, 241, 242, 243, 244, 245, 246, 137, 138, 139, 247, 163, 164, 165, 166, 167, 168, 248, 249, 250, 251, 252, 253, 254, 255, 64, 256, 257, 258, 12, 259, 37, 260, 261, 262, 263, 264, 265, 266, 267, 268, 269, 270, 120, 121, 122, 123, 271, 272, 273, 274, 425, 426, 427, 428, 429, 430, 433, 434, 435, 436, 437, 438, 439, 440, 441, 442, 443, 444, 445, 446, 447, 448, 449, 450, 431, 432] (by decide +kernel) (by decide +kernel)) (goodIn_sub (fun _ h => List.mem_cons_of_mem _ (List.mem_append_left _ (List.mem_append_left _ (List.mem_append_right _ h)))) (by decide +kernel))
set_option maxRecDepth 20000 in
theorem gL_masters_X5_carry : GoodIn wsL_masters (wsV RL 40 RX5 yX5_carry wsX5_carry) := goodIn_app (goodIn_of _ (by decide +kernel)) ggL_masters_X5_carry
set_option maxRecDepth 20000 in
theorem ggL_masters_X5_timeOf : GoodIn wsL_masters wsX5_timeOf := goodIn_ca (goodIn_r _ [308, 17, 97, 98, 3, 99, 100, 101, 309, 211, 212, 16, 213, 46, 118, 119, 425, 426, 427, 428, 429, 430, 433, 434, 435, 436, 437, 438, 439] (by decide +kernel) (by decide +kernel)) (goodIn_sub (fun _ h => List.mem_cons_of_mem _ (List.mem_append_left _ (List.mem_append_left _ (List.mem_append_right _ h)))) (by decide +kernel))
set_option maxRecDepth 20000 in
theorem gL_masters_X5_timeOf : GoodIn wsL_masters (wsV RL 44 RX5 yX5_timeOf wsX5_timeOf) := goodIn_app (goodIn_of _ (by decide +kernel)) ggL_masters_X5_timeOf
set_option maxRecDepth 20000 in
theorem ggL_masters_X5_delete : GoodIn wsL_masters wsX5_delete := goodIn_ca (goodIn_ca (goodIn_r _ [292, 183, 184, 17, 93, 94, 95, 3, 96, 21, 22, 97, 98, 99, 100, 101, 144, 145, 146, 136, 137, 138, 20, 139, 57, 198, 199, 200, 201, 285, 286, 287, 293, 294, 295, 296, 58, 205, 206, 207, 208, 209, 63, 55, 62, 118, 119, 210, 211, 212, 16, 213, 46, 214, 215, 216, 217, 218, 219, 220, 221, 45, 47, 48, 49, 50, 189, 190, 222, 223, 224, 225, 226, 227, 228, 229, 230, 231, 232, 233, 65, 66, 67, 68, 59, 60, 61, 69, 70, 39, 40, 41, 234, 235, 236, 237, 238, 239, 240, 241, 242, 243, 244, 245, 246, 247, 163, 164, 165, 166, 167, 168, 248, 249, 250, 251, 252, 253, 254, 255, 64, 256, 257, 258, 12, 259, 37, 260, 261, 262, 263, 264, 265, 266, 267, 268, 269, 270, 120, 121, 122, 123, 271, 272, 273, 274, 425, 426, 427, 428, 429, 430, 440, 441, 442, 443, 444, 445, 446, 447, 448, 449, 450, 433, 434, 435, 436, 437, 438, 439, 431, 432] (by decide +kernel) (by decide +kernel)) (goodIn_sub (fun _ h => List.mem_cons_of_mem _ (List.mem_append_right _ h)) (by decide +kernel))) (goodIn_sub (fun _ h => List.mem_cons_of_mem _ (List.mem_append_left _ (List.mem_append_left _ (List.mem_append_right _ h)))) (by decide +kernel))
set_option maxRecDepth 20000 in
theorem gL_masters_X5_delete : GoodIn wsL_masters (wsV RL 36 RX5 yX5_delete wsX5_delete) := goodIn_app (goodIn_of _ (by decide +kernel)) ggL_masters_X5_delete
set_option maxRecDepth 20000 in
theorem ggL_masters_X5_move : GoodIn wsL_masters wsX5_move := goodIn_ca (goodIn_ca (goodIn_ca (goodIn_r _ [284, 183, 184, 17, 93, 94, 95, 3, 96, 21, 22, 97, 98, 99, 100, 101, 144, 145, 146, 136, 137, 138, 20, 139, 57, 157, 158, 159, 160, 161, 198, 199, 200, 201, 285, 286, 287, 288, 268, 269, 270, 120, 121, 122, 123, 58, 118, 119, 202, 203, 204, 162, 163, 164, 165, 59, 166, 167, 168, 147, 205, 206, 207, 208, 209, 63, 55, 62, 210, 211, 212, 16, 213, 46, 214, 215, 216, 217, 218, 219, 220, 221, 45, 47, 48, 49, 50, 189, 190, 222, 223, 224, 225, 226, 227, 228, 229, 230, 231, 232, 233, 65, 66, 67, 68, 60, 61, 69, 70, 39, 40, 41, 234, 235, 236, 237, 238, 239, 240, 241, 242, 243, 244, 245, 246, 247, 248, 249, 250, 251, 252, 253, 254, 255, 64, 256, 257, 258, 12, 259, 37, 260, 261, 262, 263, 264, 265, 266, 267, 271, 272, 273, 274, 425, 426, 427, 428, 429, 430, 440, 441, 442, 443, 444, 445, 446, 447, 448, 449, 450, 433, 434, 435, 436, 437, 438, 439, 431, 432] (by decide +kernel) (by decide +kernel)) (goodIn_sub (fun _ h => List.mem_cons_of_mem _ (List.mem_append_right _ h)) (by decide +kernel))) (goodIn_sub (fun _ h => List.mem_cons_of_mem _ (List.mem_append_left _ (List.mem_append_left _ (List.mem_append_right _ h)))) (by decide +kernel))) (goodIn_sub (fun _ h => List.mem_cons_of_mem _ (List.mem_append_left _ (List.mem_append_right _ h))) (by decide +kernel))
set_option maxRecDepth 20000 in
theorem gL_masters_X5_move : GoodIn wsL_masters (wsV RL 33 RX5 yX5_move wsX5_move) := goodIn_app (goodIn_of _ (by decide +kernel)) ggL_masters_X5_move
set_option maxRecDepth 20000 in
theorem ggL_masters_X5_set : GoodIn wsL_masters wsX5_set := goodIn_ca (goodIn_ca (goodIn_ca (goodIn_r _ [278, 183, 184, 17, 93, 94, 95, 3, 96, 21, 22, 97, 98, 99, 100, 101, 144, 145, 146, 136, 137, 138, 20, 139, 57, 157, 158, 159, 160, 161, 198, 199, 200, 201, 279, 253, 254, 255, 64, 60, 118, 119, 256, 257, 258, 12, 259, 37, 260, 261, 262, 280, 115, 116, 117, 61, 205, 206, 207, 208, 209, 63, 55, 62, 210, 211, 212, 16, 213, 46, 214, 215, 216, 217, 218, 219, 220, 221, 45, 47, 48, 49, 50, 189, 190, 222, 223, 224, 225, 226, 227, 228, 229, 230, 231, 232, 233, 65, 66, 67, 68, 58, 59, 69, 70, 39, 40, 41, 234, 235, 236, 237, 238, 239, 240, 241, 242, 243, 244, 245, 246, 247, 163, 164, 165, 166, 167, 168, 248, 249, 250, 251, 252, 263, 264, 265, 266, 267, 268, 269, 270, 120, 121, 122, 123, 271, 272, 273, 274, 425, 426, 427, 428, 429, 430, 440, 441, 442, 443, 444, 445, 446, 447, 448, 449, 450, 433, 434, 435, 436, 437, 438, 439, 431, 432] (by decide +kernel) (by decide +kernel)) (goodIn_sub (fun _ h => List.mem_cons_of_mem _ (List.mem_append_right _ h)) (by decide +kernel))) (goodIn_sub (fun _ h => List.mem_cons_of_mem _ (List.mem_append_left _ (List.mem_append_left _ (List.mem_append_right _ h)))) (by decide +kernel))) (goodIn_sub (fun _ h => List.mem_cons_of_mem _ (List.mem_append_left _ (List.mem_append_right _ h))) (by decide +kernel))
set_option maxRecDepth 20000 in
theorem gL_masters_X5_set : GoodIn wsL_masters (wsV RL 30 RX5 yX5_set wsX5_set) := goodIn_app (goodIn_of _ (by decide +kernel)) ggL_masters_X5_set
set_option maxRecDepth 20000 in
theorem ggL_masters_X5_value : GoodIn wsL_masters wsX5_value := goodIn_ca (goodIn_r _ [313, 93, 94, 95, 3, 96, 21, 22, 97, 98, 99, 100, 101, 144, 145, 146, 136, 137, 138, 20, 139, 57, 280, 115, 116, 117, 61, 118, 119, 425, 426, 427, 428, 429, 430, 440, 441, 442, 443, 444, 445, 446, 447, 448, 449, 450] (by decide +kernel) (by decide +kernel)) (goodIn_sub (fun _ h => List.mem_cons_of_mem _ (List.mem_append_left _ (List.mem_append_left _ (List.mem_append_right _ h)))) (by decide +kernel))
set_option maxRecDepth 20000 in
theorem gL_masters_X5_value : GoodIn wsL_masters (wsV RL 60 RX5 yX5_value wsX5_value) := goodIn_app (goodIn_of _ (by decide +kernel)) ggL_masters_X5_value
end
section
set_option maxRecDepth 20000 in
theorem ggL_searches_X5_init : GoodIn wsL_searches wsX5_init := goodIn_r _ [6, 7, 8, 9, 10, 11, 12, 13, 14, 15, 16, 17, 18, 19, 20, 21, 22, 23, 24, 25, 26, 27, 28, 29, 30, 31, 32, 33, 34, 35, 36, 37, 38, 39, 40, 41, 42, 43, 44, 45, 46, 47, 48, 49, 50, 51, 52, 53, 54, 55, 56, 57, 58, 59, 60, 61, 62, 63, 64, 65, 66, 67, 68, 69, 70, 71, 72, 73, 74, 75, 76, 77, 78, 79, 80, 81, 82, 83, 84, 431, 432, 425, 426, 427, 428, 429, 430, 433, 434, 435, 436, 437, 438, 439, 440, 441, 442, 443, 444, 445, 446, 447, 448, 449, 450, 451, 452, 453, 454, 455, 456, 457] (by decide +kernel) (by decide +kernel)
set_option maxRecDepth 20000 in
theorem gL_searches_X5_init : GoodIn wsL_searches (wsX5_init) := ggL_searches_X5_init
set_option maxRecDepth 20000 in
theorem ggL_searches_L_kind : GoodIn wsL_searches wsL_kind := goodIn_ca (goodIn_ca (goodIn_ca (goodIn_r _ [88, 89, 90, 91, 92, 93, 94, 3, 95, 96, 97, 17, 13, 98, 99, 100, 101, 102, 103, 104, 105, 106, 107, 108, 109, 110, 12, 111, 36, 37, 112, 113, 425, 426, 427, 428, 429, 430, 433, 434, 435, 436, 437, 438, 439, 431, 432] (by decide +kernel) (by decide +kernel)) (goodIn_sub (fun _ h => List.mem_cons_of_mem _ (List.mem_append_left _ (List.mem_append_left _ (List.mem_append_right _ h)))) (by decide +kernel))) (goodIn_sub (fun _ h => List.mem_cons_of_mem _ (List.mem_append_left _ (List.mem_append_right _ h))) (by decide +kernel))) (goodIn_sub (fun _ h => List.mem_cons_of_mem _ (List.mem_append_right _ h)) (by decide +kernel))
set_option maxRecDepth 20000 in
theorem gL_searches_L_kind : GoodIn wsL_searches (va_wsS RL 92 yL_kind wsL_kind) := goodIn_app (goodIn_of _ (by decide +kernel)) ggL_searches_L_kind
set_option maxRecDepth 20000 in
theorem ggL_searches_X5_add : GoodIn wsL_searches wsX5_add := goodIn_ca (goodIn_ca (goodIn_ca (goodIn_r _ [117, 17, 118, 119, 120, 3, 121, 21, 22, 98, 99, 100, 101, 102, 122, 123, 124, 125, 126, 127, 20, 128, 57, 103, 104, 105, 106, 107, 129, 130, 131, 132, 96, 97, 133, 134, 135, 136, 137, 138, 139, 58, 59, 140, 141, 142, 143, 144, 145, 146, 147, 63, 55, 62, 148, 149, 150, 151, 152, 16, 153, 46, 154, 155, 156, 157, 158, 159, 160, 161, 45, 47, 48, 49, 50, 112, 113, 162, 163, 164, 165, 166, 167, 168, 169, 170, 171, 172, 173, 65, 66, 67, 68, 60, 61, 69, 70, 39, 40, 41, 174, 175, 176, 177, 178, 179, 180, 181, 182, 183, 184, 185, 186, 187, 188, 189, 190, 191, 192, 193, 194, 195, 64, 196, 197, 198, 12, 199, 37, 200, 201, 202, 203, 204, 205, 206, 207, 208, 209, 210, 211, 212, 213, 214, 215, 216, 217, 218, 425, 426, 427, 428, 429, 430, 433, 434, 435, 436, 437, 438, 439, 440, 441, 442, 443, 444, 445, 446, 447, 448, 449, 450, 431, 432] (by decide +kernel) (by decide +kernel)) (goodIn_sub (fun _ h => List.mem_cons_of_mem _ (List.mem_append_left _ (List.mem_append_right _ h))) (by decide +kernel))) (goodIn_sub (fun _ h => List.mem_cons_of_mem _ (List.mem_append_right _ h)) (by decide +kernel))) (goodIn_sub (fun _ h => List.mem_cons_of_mem _ (List.mem_append_left _ (List.mem_append_left _ (List.mem_append_right _ h)))) (by decide +kernel))
set_option maxRecDepth 20000 in
theorem gL_searches_X5_add : GoodIn wsL_searches (wsV RL 26 RX5 yX5_add wsX5_add) := goodIn_app (goodIn_of _ (by decide +kernel)) ggL_searches_X5_add
set_option maxRecDepth 20000 in
theorem ggL_searches_X5_isWhole : GoodIn wsL_searches wsX5_isWhole := goodIn_ca (goodIn_r _ [222, 118, 119, 120, 3, 121, 21, 22, 98, 99, 100, 101, 102, 122, 123, 124, 125, 126, 127, 20, 128, 57, 223, 224, 225, 226, 60, 64, 148, 149, 227, 228, 229, 12, 230, 36, 200, 201, 202, 231, 232, 233, 234, 61, 425, 426, 427, 428, 429, 430, 440, 441, 442, 443, 444, 445, 446, 447, 448, 449, 450, 431, 432] (by decide +kernel) (by decide +kernel)) (goodIn_sub (fun _ h => List.mem_cons_of_mem _ (List.mem_append_left _ (List.mem_append_right _ h))) (by decide +kernel))
set_option maxRecDepth 20000 in
theorem gL_searches_X5_isWhole : GoodIn wsL_searches (wsV RL 64 RX5 yX5_isWhole wsX5_isWhole) := goodIn_app (goodIn_of _ (by decide +kernel)) ggL_searches_X5_isWhole
set_option maxRecDepth 20000 in
theorem ggL_searches_L_act : GoodIn wsL_searches wsL_act := goodIn_ca (goodIn_ca (goodIn_ca (goodIn_r _ [237, 89, 90, 91, 114, 115, 116, 3, 117, 17, 118, 119, 120, 121, 21, 22, 98, 99, 100, 101, 102, 122, 123, 124, 125, 126, 127, 20, 128, 57, 103, 104, 105, 106, 107, 129, 130, 131, 132, 96, 97, 133, 134, 135, 136, 137, 138, 139, 58, 59, 140, 141, 142, 143, 144, 145, 146, 147, 63, 55, 62, 148, 149, 150, 151, 152, 16, 153, 46, 154, 155, 156, 157, 158, 159, 160, 161, 45, 47, 48, 49, 50, 112, 113, 162, 163, 164, 165, 166, 167, 168, 169, 170, 171, 172, 173, 65, 66, 67, 68, 60, 61, 69, 70, 39, 40, 41, 174, 175, 176, 177, 178, 179, 180, 181, 182, 183, 184, 185, 186, 187, 188, 189, 190, 191, 192, 193, 194, 195, 64, 196, 197, 198, 12, 199, 37, 200, 201, 202, 203, 204, 205, 206, 207, 208, 209, 210, 211, 212, 213, 214, 215, 216, 217, 218, 238, 239, 240, 241, 242, 243, 232, 233, 234, 244, 245, 246, 247, 248, 249, 250, 251, 252, 253, 254, 255, 256, 257, 258, 259, 260, 261, 262, 263, 264, 265, 266, 267, 268, 269, 270, 271, 272, 273, 274, 275, 276, 277, 278, 279, 280, 281, 282, 283, 284, 285, 286, 287, 288, 289, 290, 291, 292, 293, 294, 295, 296, 297, 219, 220, 221, 222, 223, 224, 225, 226, 227, 228, 229, 230, 36, 231, 298, 299, 300, 301, 302, 303, 304, 305, 30, 306, 307, 308, 309, 310, 311, 312, 29, 313, 314, 81, 82, 83, 315, 316, 317, 318, 319, 320, 321, 322, 323, 324, 325, 326, 84, 327, 328, 329, 330, 331, 332, 333, 334, 335, 336, 337, 338, 339, 340, 341, 342, 343, 344, 26, 345, 346, 347, 348, 349, 350, 351, 25, 352, 76, 353, 354, 355, 356, 357, 358, 359, 360, 361, 362, 363, 364, 365, 75, 366, 367, 368, 369, 370, 371, 372, 373, 374, 375, 376, 425, 426, 427, 428, 429, 430, 433, 434, 435, 436, 437, 438, 439, 440, 441, 442, 443, 444, 445, 446, 447, 448, 449, 450, 431, 432, 453, 454, 455, 456, 457, 451, 452] (by decide +kernel) (by decide +kernel)) (goodIn_sub (fun _ h => List.mem_cons_of_mem _ (List.mem_append_left _ (List.mem_append_right _ h))) (by decide +kernel))) (goodIn_sub (fun _ h => List.mem_cons_of_mem _ (List.mem_append_right _ h)) (by decide +kernel))) (goodIn_sub (fun _ h => List.mem_cons_of_mem _ (List.mem_append_left _ (List.mem_append_left _ (List.mem_append_right _ h)))) (by decide +kernel))
set_option maxRecDepth 20000 in
theorem gL_searches_L_act : GoodIn wsL_searches (va_wsS RL 98 yL_act wsL_act) := goodIn_app (goodIn_of _ (by decide +kernel)) ggL_searches_L_act
set_option maxRecDepth 20000 in
theorem ggL_searches_X5_set : GoodIn wsL_searches wsX5_set := goodIn_ca (goodIn_ca (goodIn_ca (goodIn_r _ [241, 96, 97, 17, 118, 119, 120, 3, 121, 21, 22, 98, 99, 100, 101, 102, 122, 123, 124, 125, 126, 127, 20, 128, 57, 103, 104, 105, 106, 107, 129, 130, 131, 132, 242, 193, 194, 195, 64, 60, 148, 149, 196, 197, 198, 12, 199, 37, 200, 201, 202, 243, 232, 233, 234, 61, 143, 144, 145, 146, 147, 63, 55, 62, 150, 151, 152, 16, 153, 46, 154, 155, 156, 157, 158, 159, 160, 161, 45, 47, 48, 49, 50, 112, 113, 162, 163, 164, 165, 166, 167, 168, 169, 170, 171, 172, 173, 65, 66, 67, 68, 58, 59, 69, 70, 39, 40, 41, 174, 175, 176, 177, 178, 179, 180, 181, 182, 183, 184, 185, 186, 187, 137, 138, 139, 140, 141, 142, 188, 189, 190, 191, 192, 203, 204, 205, 206, 207, 208, 209, 210, 211, 212, 213, 214, 215, 216, 217, 218, 425, 426, 427, 428, 429, 430, 440, 441, 442, 443, 444, 445, 446, 447, 448, 449, 450, 433, 434, 435, 436, 437, 438, 439, 431, 432] (by decide +kernel) (by decide +kernel)) (goodIn_sub (fun _ h => List.mem_cons_of_mem _ (List.mem_append_left _ (List.mem_append_left _ (List.mem_append_right _ h)))) (by decide +kernel))) (goodIn_sub (fun _ h => List.mem_cons_of_mem _ (List.mem_append_left _ (List.mem_append_right _ h))) (by decide +kernel))) (goodIn_sub (fun _ h => List.mem_cons_of_mem _ (List.mem_append_right _ h)) (by decide +kernel))
set_option maxRecDepth 20000 in
theorem gL_searches_X5_set : GoodIn wsL_searches (wsV RL 30 RX5 yX5_set wsX5_set) := goodIn_app (goodIn_of _ (by decide +kernel)) ggL_searches_X5_set
set_option maxRecDepth 20000 in
theorem ggL_searches_X5_test : GoodIn wsL_searches wsX5_test := goodIn_ca (goodIn_ca (goodIn_r _ [305, 30, 103, 104, 3, 105, 106, 107, 306, 307, 308, 309, 96, 97, 310, 311, 312, 29, 313, 314, 81, 82, 83, 112, 113, 425, 426, 427, 428, 429, 430, 453, 454, 455, 456, 457] (by decide +kernel) (by decide +kernel)) (goodIn_sub (fun _ h => List.mem_cons_of_mem _ (List.mem_append_right _ h)) (by decide +kernel))) (goodIn_sub (fun _ h => List.mem_cons_of_mem _ (List.mem_append_left _ (List.mem_append_left _ (List.mem_append_right _ h)))) (by decide +kernel))
set_option maxRecDepth 20000 in
theorem gL_searches_X5_test : GoodIn wsL_searches (wsV RL 70 RX5 yX5_test wsX5_test) := goodIn_app (goodIn_of _ (by decide +kernel)) ggL_searches_X5_test
set_option maxRecDepth 20000 in
theorem ggL_searches_X5_join : GoodIn wsL_searches wsX5_join := goodIn_ca (goodIn_ca (goodIn_ca (goodIn_r _ [318, 30, 98, 99, 3, 100, 101, 102, 103, 104, 105, 106, 107, 306, 307, 308, 309, 96, 97, 310, 311, 312, 29, 313, 314, 81, 82, 83, 112, 113, 425, 426, 427, 428, 429, 430, 453, 454, 455, 456, 457] (by decide +kernel) (by decide +kernel)) (goodIn_sub (fun _ h => List.mem_cons_of_mem _ (List.mem_append_left _ (List.mem_append_right _ h))) (by decide +kernel))) (goodIn_sub (fun _ h => List.mem_cons_of_mem _ (List.mem_append_right _ h)) (by decide +kernel))) (goodIn_sub (fun _ h => List.mem_cons_of_mem _ (List.mem_append_left _ (List.mem_append_left _ (List.mem_append_right _ h)))) (by decide +kernel))
set_option maxRecDepth 20000 in
theorem gL_searches_X5_join : GoodIn wsL_searches (wsV RL 73 RX5 yX5_join wsX5_join) := goodIn_app (goodIn_of _ (by decide +kernel)) ggL_searches_X5_join
set_option maxRecDepth 20000 in
theorem ggL_searches_L_refuses_r1 : GoodIn wsL_searches wsL_refuses_r1 := goodIn_r wsL_refuses_r1 [380, 381, 382, 383, 3, 384, 17, 274, 275, 276, 277, 118, 119, 120, 121, 21, 22, 98, 99, 100, 101, 102, 385, 386] (by decide +kernel) (by decide +kernel)
set_option maxRecDepth 20000 in
theorem ggL_searches_L_refuses_r2 : GoodIn wsL_searches wsL_refuses_r2 := goodIn_r wsL_refuses_r2 [387, 388, 389, 390, 391, 20, 392, 57, 393, 394, 395, 396, 60, 231, 232, 233, 234, 61, 148, 149, 211, 212, 213, 214] (by decide +kernel) (by decide +kernel)
set_option maxRecDepth 20000 in
theorem ggL_searches_L_refuses_r3 : GoodIn wsL_searches wsL_refuses_r3 := goodIn_r wsL_refuses_r3 [58, 357, 291, 292, 293, 59, 85, 86, 87, 88, 89, 90, 91, 92, 93, 94, 95, 96, 97, 13, 103, 104, 105, 106] (by decide +kernel) (by decide +kernel)
set_option maxRecDepth 20000 in
theorem ggL_searches_L_refuses_r4 : GoodIn wsL_searches wsL_refuses_r4 := goodIn_r wsL_refuses_r4 [107, 108, 109, 110, 12, 111, 36, 37, 112, 113, 235, 236, 237, 114, 115, 116, 117, 122, 123, 124, 125, 126, 127, 128] (by decide +kernel) (by decide +kernel)
end
section
set_option maxRecDepth 20000 in
theorem ggL_searches_L_refuses_r5 : GoodIn wsL_searches wsL_refuses_r5 := goodIn_r wsL_refuses_r5 [129, 130, 131, 132, 133, 134, 135, 136, 137, 138, 139, 140, 141, 142, 143, 144, 145, 146, 147, 63, 55, 62, 150, 151] (by decide +kernel) (by decide +kernel)
set_option maxRecDepth 20000 in
theorem ggL_searches_L_refuses_r6 : GoodIn wsL_searches wsL_refuses_r6 := goodIn_r wsL_refuses_r6 [152, 16, 153, 46, 154, 155, 156, 157, 158, 159, 160, 161, 45, 47, 48, 49, 50, 162, 163, 164, 165, 166, 167, 168] (by decide +kernel) (by decide +kernel)
set_option maxRecDepth 20000 in
theorem ggL_searches_L_refuses_r7 : GoodIn wsL_searches wsL_refuses_r7 := goodIn_r wsL_refuses_r7 [169, 170, 171, 172, 173, 65, 66, 67, 68, 69, 70, 39, 40, 41, 174, 175, 176, 177, 178, 179, 180, 181, 182, 183] (by decide +kernel) (by decide +kernel)
set_option maxRecDepth 20000 in
theorem ggL_searches_L_refuses_r8 : GoodIn wsL_searches wsL_refuses_r8 := goodIn_r wsL_refuses_r8 [184, 185, 186, 187, 188, 189, 190, 191, 192, 193, 194, 195, 64, 196, 197, 198, 199, 200, 201, 202, 203, 204, 205, 206] (by decide +kernel) (by decide +kernel)
set_option maxRecDepth 20000 in
theorem ggL_searches_L_refuses_r9 : GoodIn wsL_searches wsL_refuses_r9 := goodIn_r wsL_refuses_r9 [207, 208, 209, 210, 215, 216, 217, 218, 238, 239, 240, 241, 242, 243, 244, 245, 246, 247, 248, 249, 250, 251, 252, 253] (by decide +kernel) (by decide +kernel)
set_option maxRecDepth 20000 in
theorem ggL_searches_L_refuses_r10 : GoodIn wsL_searches wsL_refuses_r10 := goodIn_r wsL_refuses_r10 [254, 255, 256, 257, 258, 259, 260, 261, 262, 263, 264, 265, 266, 267, 268, 269, 270, 271, 272, 273, 278, 279, 280, 281] (by decide +kernel) (by decide +kernel)
set_option maxRecDepth 20000 in
theorem ggL_searches_L_refuses_r11 : GoodIn wsL_searches wsL_refuses_r11 := goodIn_r wsL_refuses_r11 [282, 283, 284, 285, 286, 287, 288, 289, 290, 294, 295, 296, 297, 219, 220, 221, 222, 223, 224, 225, 226, 227, 228, 229] (by decide +kernel) (by decide +kernel)
set_option maxRecDepth 20000 in
theorem ggL_searches_L_refuses_r12 : GoodIn wsL_searches wsL_refuses_r12 := goodIn_r wsL_refuses_r12 [230, 298, 299, 300, 301, 302, 303, 304, 305, 30, 306, 307, 308, 309, 310, 311, 312, 29, 313, 314, 81, 82, 83, 315] (by decide +kernel) (by decide +kernel)
set_option maxRecDepth 20000 in
theorem ggL_searches_L_refuses_r13 : GoodIn wsL_searches wsL_refuses_r13 := goodIn_r wsL_refuses_r13 [316, 317, 318, 319, 320, 321, 322, 323, 324, 325, 326, 84, 327, 328, 329, 330, 331, 332, 333, 334, 335, 336, 337, 338] (by decide +kernel) (by decide +kernel)
set_option maxRecDepth 20000 in
theorem ggL_searches_L_refuses_r14 : GoodIn wsL_searches wsL_refuses_r14 := goodIn_r wsL_refuses_r14 [339, 340, 341, 342, 343, 344, 26, 345, 346, 347, 348, 349, 350, 351, 25, 352, 76, 353, 354, 355, 356, 358, 359, 360] (by decide +kernel) (by decide +kernel)
set_option maxRecDepth 20000 in
theorem ggL_searches_L_refuses_r15 : GoodIn wsL_searches wsL_refuses_r15 := goodIn_r wsL_refuses_r15 [361, 362, 363, 364, 365, 75, 366, 367, 368, 369, 370, 371, 372, 373, 374, 375, 376, 397, 398, 399, 400, 401, 402, 403] (by decide +kernel) (by decide +kernel)
set_option maxRecDepth 20000 in
theorem ggL_searches_L_refuses_r16 : GoodIn wsL_searches wsL_refuses_r16 := goodIn_r wsL_refuses_r16 [404, 405, 406, 407, 408, 409, 410, 411, 412, 413, 414, 415, 416, 417, 418, 419, 420, 421] (by decide +kernel) (by decide +kernel)
set_option maxRecDepth 20000 in
theorem ggL_searches_L_refuses_wsX50 : GoodIn wsL_searches wsX50 := goodIn_r wsX50 [425, 426, 427, 428, 429, 430] (by decide +kernel) (by decide +kernel)
set_option maxRecDepth 20000 in
theorem ggL_searches_L_refuses_wsX20 : GoodIn wsL_searches wsX20 := goodIn_r wsX20 [433, 434, 435, 436, 437, 438, 439] (by decide +kernel) (by decide +kernel)
set_option maxRecDepth 20000 in
theorem ggL_searches_L_refuses_wsX40 : GoodIn wsL_searches wsX40 := goodIn_r wsX40 [440, 441, 442, 443, 444, 445, 446, 447, 448, 449, 450] (by decide +kernel) (by decide +kernel)
set_option maxRecDepth 20000 in
theorem ggL_searches_L_refuses_wsX00 : GoodIn wsL_searches wsX00 := goodIn_r wsX00 [431, 432] (by decide +kernel) (by decide +kernel)
set_option maxRecDepth 20000 in
theorem ggL_searches_L_refuses_wsX10 : GoodIn wsL_searches wsX10 := goodIn_r wsX10 [453, 454, 455, 456, 457] (by decide +kernel) (by decide +kernel)
set_option maxRecDepth 20000 in
theorem ggL_searches_L_refuses_wsX30 : GoodIn wsL_searches wsX30 := goodIn_r wsX30 [451, 452] (by decide +kernel) (by decide +kernel)
set_option maxRecDepth 20000 in
theorem ggL_searches_L_refuses : GoodIn wsL_searches wsL_refuses := goodIn_ca (goodIn_ca (goodIn_ca (goodIn_cons (List.mem_of_getElem? (i := 379) rfl) rfl (goodIn_app (goodIn_app (goodIn_app (goodIn_app (goodIn_app (goodIn_app (goodIn_app ggL_searches_L_refuses_r1 (goodIn_app ggL_searches_L_refuses_r2 (goodIn_app ggL_searches_L_refuses_r3 (goodIn_app ggL_searches_L_refuses_r4 (goodIn_app ggL_searches_L_refuses_r5 (goodIn_app ggL_searches_L_refuses_r6 (goodIn_app ggL_searches_L_refuses_r7 (goodIn_app ggL_searches_L_refuses_r8 (goodIn_app ggL_searches_L_refuses_r9 (goodIn_app ggL_searches_L_refuses_r10 (goodIn_app ggL_searches_L_refuses_r11 (goodIn_app ggL_searches_L_refuses_r12 (goodIn_app ggL_searches_L_refuses_r13 (goodIn_app ggL_searches_L_refuses_r14 (goodIn_app ggL_searches_L_refuses_r15 ggL_searches_L_refuses_r16))))))))))))))) ggL_searches_L_refuses_wsX50) ggL_searches_L_refuses_wsX20) ggL_searches_L_refuses_wsX40) ggL_searches_L_refuses_wsX00) ggL_searches_L_refuses_wsX10) ggL_searches_L_refuses_wsX30)) (goodIn_sub (fun _ h => List.mem_cons_of_mem _ (List.mem_append_left _ (List.mem_append_right _ h))) (by decide +kernel))) (goodIn_sub (fun _ h => List.mem_cons_of_mem _ (List.mem_append_left _ (List.mem_append_left _ (List.mem_append_right _ h)))) (by decide +kernel))) (goodIn_sub (fun _ h => List.mem_cons_of_mem _ (List.mem_append_right _ h)) (by decide +kernel))
set_option maxRecDepth 20000 in
theorem gL_searches_L_refuses : GoodIn wsL_searches (va_wsS RL 116 yL_refuses wsL_refuses) := goodIn_app (goodIn_of _ (by decide +kernel)) ggL_searches_L_refuses
end
section
set_option maxRecDepth 20000 in
theorem ggL_searches_X5_holds : GoodIn wsL_searches wsX5_holds := goodIn_ca (goodIn_r _ [322, 30, 118, 119, 120, 3, 121, 21, 22, 98, 99, 100, 101, 102, 122, 123, 124, 125, 126, 127, 20, 128, 57, 323, 324, 325, 29, 326, 81, 82, 83, 84, 327, 328, 329, 330, 193, 194, 195, 64, 60, 148, 149, 196, 197, 198, 12, 199, 37, 200, 201, 202, 331, 232, 233, 234, 61, 332, 333, 334, 335, 336, 337, 338, 339, 340, 425, 426, 427, 428, 429, 430, 453, 454, 455, 456, 457, 440, 441, 442, 443, 444, 445, 446, 447, 448, 449, 450, 431, 432] (by decide +kernel) (by decide +kernel)) (goodIn_sub (fun _ h => List.mem_cons_of_mem _ (List.mem_append_left _ (List.mem_append_right _ h))) (by decide +kernel))
set_option maxRecDepth 20000 in
theorem gL_searches_X5_holds : GoodIn wsL_searches (wsV RL 76 RX5 yX5_holds wsX5_holds) := goodIn_app (goodIn_of _ (by decide +kernel)) ggL_searches_X5_holds
set_option maxRecDepth 20000 in
theorem ggL_searches_L_finds : GoodIn wsL_searches wsL_finds := goodIn_ca (goodIn_ca (goodIn_r _ [424, 341, 342, 343, 3, 344, 101, 102, 30, 26, 118, 119, 120, 121, 21, 22, 98, 99, 100, 122, 123, 124, 125, 126, 127, 20, 128, 57, 103, 104, 105, 106, 107, 345, 346, 347, 348, 58, 349, 350, 351, 25, 352, 76, 353, 354, 355, 356, 357, 291, 292, 293, 59, 148, 149, 358, 359, 360, 361, 323, 324, 325, 29, 326, 81, 82, 83, 84, 327, 328, 329, 330, 193, 194, 195, 64, 60, 196, 197, 198, 12, 199, 37, 200, 201, 202, 331, 232, 233, 234, 61, 332, 333, 334, 335, 336, 337, 338, 339, 340, 362, 363, 364, 365, 75, 366, 212, 213, 214, 367, 368, 369, 370, 371, 372, 373, 374, 375, 376, 211, 425, 426, 427, 428, 429, 430, 453, 454, 455, 456, 457, 440, 441, 442, 443, 444, 445, 446, 447, 448, 449, 450, 451, 452, 431, 432] (by decide +kernel) (by decide +kernel)) (goodIn_sub (fun _ h => List.mem_cons_of_mem _ (List.mem_append_left _ (List.mem_append_right _ h))) (by decide +kernel))) (goodIn_sub (fun _ h => List.mem_cons_of_mem _ (List.mem_append_right _ h)) (by decide +kernel))
set_option maxRecDepth 20000 in
theorem gL_searches_L_finds : GoodIn wsL_searches (va_wsS RL 120 yL_finds wsL_finds) := goodIn_app (goodIn_of _ (by decide +kernel)) ggL_searches_L_finds
set_option maxRecDepth 20000 in
theorem ggL_searches_L_right : GoodIn wsL_searches wsL_right := goodIn_ca (goodIn_ca (goodIn_r _ [399, 89, 90, 400, 401, 402, 3, 403, 26, 98, 99, 100, 101, 102, 103, 104, 105, 106, 107, 404, 405, 406, 25, 407, 75, 112, 113, 425, 426, 427, 428, 429, 430, 451, 452] (by decide +kernel) (by decide +kernel)) (goodIn_sub (fun _ h => List.mem_cons_of_mem _ (List.mem_append_left _ (List.mem_append_right _ h))) (by decide +kernel))) (goodIn_sub (fun _ h => List.mem_cons_of_mem _ (List.mem_append_right _ h)) (by decide +kernel))
set_option maxRecDepth 20000 in
theorem gL_searches_L_right : GoodIn wsL_searches (va_wsS RL 102 yL_right wsL_right) := goodIn_app (goodIn_of _ (by decide +kernel)) ggL_searches_L_right
set_option maxRecDepth 20000 in
theorem ggL_searches_L_refer : GoodIn wsL_searches wsL_refer := goodIn_ca (goodIn_r _ [410, 89, 411, 412, 413, 3, 414, 26, 98, 99, 100, 101, 102, 415, 416, 417, 25, 418, 76, 425, 426, 427, 428, 429, 430, 451, 452] (by decide +kernel) (by decide +kernel)) (goodIn_sub (fun _ h => List.mem_cons_of_mem _ (List.mem_append_left _ (List.mem_append_right _ h))) (by decide +kernel))
set_option maxRecDepth 20000 in
theorem gL_searches_L_refer : GoodIn wsL_searches (va_wsS RL 105 yL_refer wsL_refer) := goodIn_app (goodIn_of _ (by decide +kernel)) ggL_searches_L_refer
end
section
set_option maxRecDepth 20000 in
theorem ggL_law_L_masters_r1 : GoodIn wsL_law wsL_masters_r1 := goodIn_r wsL_masters_r1 [0, 1, 2, 7, 8, 9, 10, 11, 12, 13, 14, 15, 16, 17, 18, 19, 20, 21, 22, 23, 24, 25, 26, 27] (by decide +kernel) (by decide +kernel)
set_option maxRecDepth 20000 in
theorem ggL_law_L_masters_r2 : GoodIn wsL_law wsL_masters_r2 := goodIn_r wsL_masters_r2 [28, 29, 30, 31, 32, 33, 34, 35, 36, 37, 38, 39, 40, 41, 42, 43, 44, 45, 46, 47, 48, 49, 50, 51] (by decide +kernel) (by decide +kernel)
set_option maxRecDepth 20000 in
theorem ggL_law_L_masters_r3 : GoodIn wsL_law wsL_masters_r3 := goodIn_r wsL_masters_r3 [52, 53, 54, 55, 56, 57, 58, 59, 60, 61, 62, 63, 64, 65, 66, 67, 68, 69, 70, 71, 72, 73, 74, 75] (by decide +kernel) (by decide +kernel)
set_option maxRecDepth 20000 in
theorem ggL_law_L_masters_r4 : GoodIn wsL_law wsL_masters_r4 := goodIn_r wsL_masters_r4 [76, 77, 78, 79, 80, 81, 82, 83, 84, 85, 86, 87, 88, 89, 90, 91, 92, 93, 94, 95, 96, 97, 98, 99] (by decide +kernel) (by decide +kernel)
set_option maxRecDepth 20000 in
theorem ggL_law_L_masters_r5 : GoodIn wsL_law wsL_masters_r5 := goodIn_r wsL_masters_r5 [100, 101, 102, 103, 104, 105, 106, 107, 108, 109, 110, 111, 112, 113, 114, 115, 116, 117, 118, 119, 120, 121, 122, 123] (by decide +kernel) (by decide +kernel)
set_option maxRecDepth 20000 in
theorem ggL_law_L_masters_r6 : GoodIn wsL_law wsL_masters_r6 := goodIn_r wsL_masters_r6 [124, 125, 126, 127, 128, 129, 130, 131, 132, 5, 133, 134, 135, 136, 137, 138, 139, 140, 141, 142, 143, 144, 145, 146] (by decide +kernel) (by decide +kernel)
set_option maxRecDepth 20000 in
theorem ggL_law_L_masters_r7 : GoodIn wsL_law wsL_masters_r7 := goodIn_r wsL_masters_r7 [147, 148, 149, 150, 151, 152, 153, 154, 155, 156, 157, 158, 159, 160, 161, 162, 163, 164, 165, 166, 167, 168, 169, 170] (by decide +kernel) (by decide +kernel)
set_option maxRecDepth 20000 in
theorem ggL_law_L_masters_r8 : GoodIn wsL_law wsL_masters_r8 := (goodIn_cons (List.mem_of_getElem? (i := 171) (by decide +kernel)) (by decide +kernel) (goodIn_cons (List.mem_of_getElem? (i := 172) (by decide +kernel)) (by decide +kernel) (goodIn_cons (List.mem_of_getElem? (i := 173) rfl) rfl (goodIn_cons (List.mem_of_getElem? (i := 174) (by decide +kernel)) (by decide +kernel) (goodIn_cons (List.mem_of_getElem? (i := 175) (by decide +kernel)) (by decide +kernel) (goodIn_cons (List.mem_of_getElem? (i := 176) (by decide +kernel)) (by decide +kernel) (goodIn_cons (List.mem_of_getElem? (i := 177) (by decide +kernel)) (by decide +kernel) (goodIn_cons (List.mem_of_getElem? (i := 178) (by decide +kernel)) (by decide +kernel) (goodIn_cons (List.mem_of_getElem? (i := 179) (by decide +kernel)) (by decide +kernel) (goodIn_cons (List.mem_of_getElem? (i := 180) (by decide +kernel)) (by decide +kernel) (goodIn_cons (List.mem_of_getElem? (i := 181) (by decide +kernel)) (by decide +kernel) (goodIn_cons (List.mem_of_getElem? (i := 182) (by decide +kernel)) (by decide +kernel) (goodIn_cons (List.mem_of_getElem? (i := 183) (by decide +kernel)) (by decide +kernel) (goodIn_cons (List.mem_of_getElem? (i := 184) (by decide +kernel)) (by decide +kernel) (goodIn_cons (List.mem_of_getElem? (i := 185) (by decide +kernel)) (by decide +kernel) (goodIn_cons (List.mem_of_getElem? (i := 186) (by decide +kernel)) (by decide +kernel) (goodIn_cons (List.mem_of_getElem? (i := 187) (by decide +kernel)) (by decide +kernel) (goodIn_cons (List.mem_of_getElem? (i := 188) (by decide +kernel)) (by decide +kernel) (goodIn_cons (List.mem_of_getElem? (i := 189) (by decide +kernel)) (by decide +kernel) (goodIn_cons (List.mem_of_getElem? (i := 190) (by decide +kernel)) (by decide +kernel) (goodIn_cons (List.mem_of_getElem? (i := 191) (by decide +kernel)) (by decide +kernel) (goodIn_cons (List.mem_of_getElem? (i := 192) (by decide +kernel)) (by decide +kernel) (goodIn_cons (List.mem_of_getElem? (i := 193) (by decide +kernel)) (by decide +kernel) (goodIn_cons (List.mem_of_getElem? (i := 194) (by decide +kernel)) (by decide +kernel) goodIn_nil))))))))))))))))))))))))
set_option maxRecDepth 20000 in
theorem ggL_law_L_masters_r9 : GoodIn wsL_law wsL_masters_r9 := goodIn_r wsL_masters_r9 [195, 196, 197, 198, 199, 200, 201, 202, 203, 204, 205, 206, 207, 208, 209, 210, 211, 212, 213, 214, 215, 216, 217, 218] (by decide +kernel) (by decide +kernel)
set_option maxRecDepth 20000 in
theorem ggL_law_L_masters_r10 : GoodIn wsL_law wsL_masters_r10 := goodIn_r wsL_masters_r10 [219, 220, 221, 222, 223, 224, 225, 226, 227, 228, 229, 230, 231, 232, 233, 234, 235, 236, 237, 238, 239, 240, 241, 242] (by decide +kernel) (by decide +kernel)
set_option maxRecDepth 20000 in
theorem ggL_law_L_masters_r11 : GoodIn wsL_law wsL_masters_r11 := goodIn_r wsL_masters_r11 [243, 244, 245, 246, 247, 248, 249, 250, 251, 252, 253, 254, 255, 256, 257, 258, 259, 260, 261, 262, 263, 264, 265, 266] (by decide +kernel) (by decide +kernel)
set_option maxRecDepth 20000 in
theorem ggL_law_L_masters_r12 : GoodIn wsL_law wsL_masters_r12 := goodIn_r wsL_masters_r12 [267, 268, 269, 270, 271, 272, 273, 274, 275, 276, 277, 278, 279, 280, 281, 282, 283, 284, 285, 286, 287, 288, 289, 290] (by decide +kernel) (by decide +kernel)
set_option maxRecDepth 20000 in
theorem ggL_law_L_masters_r13 : GoodIn wsL_law wsL_masters_r13 := goodIn_r wsL_masters_r13 [291, 292, 293, 294, 295, 296, 297, 298, 299, 300, 301, 302, 303, 304, 305, 306, 307, 308, 309, 310, 311, 312, 313, 314] (by decide +kernel) (by decide +kernel)
set_option maxRecDepth 20000 in
theorem ggL_law_L_masters_r14 : GoodIn wsL_law wsL_masters_r14 := goodIn_r wsL_masters_r14 [315, 316, 317, 318, 319, 320, 321, 322, 323, 324, 325, 326, 327, 328, 329, 330, 331, 332, 333, 334, 335, 336, 337, 338] (by decide +kernel) (by decide +kernel)
set_option maxRecDepth 20000 in
theorem ggL_law_L_masters_r15 : GoodIn wsL_law wsL_masters_r15 := goodIn_r wsL_masters_r15 [339, 340, 341, 342, 343, 344, 345, 346, 347, 348, 349, 350, 351, 352, 353, 354, 355, 356, 357, 358, 359, 360, 361, 362] (by decide +kernel) (by decide +kernel)
set_option maxRecDepth 20000 in
theorem ggL_law_L_masters_r16 : GoodIn wsL_law wsL_masters_r16 := goodIn_r wsL_masters_r16 [363, 364, 365, 366, 367, 368, 369, 370, 371, 372, 373, 374, 375, 376, 377, 378, 379, 380, 381, 382, 383, 384, 385, 386] (by decide +kernel) (by decide +kernel)
set_option maxRecDepth 20000 in
theorem ggL_law_L_masters_r17 : GoodIn wsL_law wsL_masters_r17 := goodIn_r wsL_masters_r17 [387, 388, 389, 390, 391, 392, 393, 394, 395, 396, 397, 398, 399, 400, 401, 402, 403, 404, 405, 406, 407, 408, 409, 410] (by decide +kernel) (by decide +kernel)
set_option maxRecDepth 20000 in
theorem ggL_law_L_masters_r18 : GoodIn wsL_law wsL_masters_r18 := goodIn_r wsL_masters_r18 [411, 412, 413, 414, 415, 416, 417, 418, 419, 420, 421, 422, 423, 424, 425, 426] (by decide +kernel) (by decide +kernel)
set_option maxRecDepth 20000 in
theorem ggL_law_L_masters_wsX50 : GoodIn wsL_law wsX50 := goodIn_r wsX50 [433, 434, 435, 436, 437, 438] (by decide +kernel) (by decide +kernel)
set_option maxRecDepth 20000 in
theorem ggL_law_L_masters_wsX00 : GoodIn wsL_law wsX00 := goodIn_r wsX00 [439, 440] (by decide +kernel) (by decide +kernel)
end
section
set_option maxRecDepth 20000 in
theorem ggL_law_L_masters_wsX20 : GoodIn wsL_law wsX20 := goodIn_r wsX20 [441, 442, 443, 444, 445, 446, 447] (by decide +kernel) (by decide +kernel)
set_option maxRecDepth 20000 in
theorem ggL_law_L_masters_wsX40 : GoodIn wsL_law wsX40 := goodIn_r wsX40 [448, 449, 450, 451, 452, 453, 454, 455, 456, 457, 458] (by decide +kernel) (by decide +kernel)
set_option maxRecDepth 20000 in
theorem ggL_law_L_masters_wsX30 : GoodIn wsL_law wsX30 := goodIn_r wsX30 [459, 460] (by decide +kernel) (by decide +kernel)
set_option maxRecDepth 20000 in
theorem ggL_law_L_masters_wsX10 : GoodIn wsL_law wsX10 := goodIn_r wsX10 [461, 462, 463, 464, 465] (by decide +kernel) (by decide +kernel)
set_option maxRecDepth 20000 in
theorem ggL_law_L_masters : GoodIn wsL_law wsL_masters := goodIn_ca (goodIn_ca (goodIn_ca (goodIn_cons (List.mem_of_getElem? (i := 6) rfl) rfl (goodIn_app (goodIn_app (goodIn_app (goodIn_app (goodIn_app (goodIn_app (goodIn_app ggL_law_L_masters_r1 (goodIn_app ggL_law_L_masters_r2 (goodIn_app ggL_law_L_masters_r3 (goodIn_app ggL_law_L_masters_r4 (goodIn_app ggL_law_L_masters_r5 (goodIn_app ggL_law_L_masters_r6 (goodIn_app ggL_law_L_masters_r7 (goodIn_app ggL_law_L_masters_r8 (goodIn_app ggL_law_L_masters_r9 (goodIn_app ggL_law_L_masters_r10 (goodIn_app ggL_law_L_masters_r11 (goodIn_app ggL_law_L_masters_r12 (goodIn_app ggL_law_L_masters_r13 (goodIn_app ggL_law_L_masters_r14 (goodIn_app ggL_law_L_masters_r15 (goodIn_app ggL_law_L_masters_r16 (goodIn_app ggL_law_L_masters_r17 ggL_law_L_masters_r18))))))))))))))))) ggL_law_L_masters_wsX50) ggL_law_L_masters_wsX00) ggL_law_L_masters_wsX20) ggL_law_L_masters_wsX40) ggL_law_L_masters_wsX30) ggL_law_L_masters_wsX10)) (goodIn_sub (fun _ h => List.mem_append_left _ (List.mem_append_left _ (List.mem_append_right _ h))) (by decide +kernel))) (goodIn_sub (fun _ h => List.mem_append_left _ (List.mem_append_right _ h)) (by decide +kernel))) (goodIn_sub (fun _ h => List.mem_append_right _ h) (by decide +kernel))
set_option maxRecDepth 20000 in
theorem gL_law_L_masters : GoodIn wsL_law (va_wsS RL 124 yL_masters wsL_masters) := goodIn_app (goodIn_of _ (by decide +kernel)) ggL_law_L_masters
set_option maxRecDepth 20000 in
theorem ggL_law_L_searches_r1 : GoodIn wsL_law wsL_searches_r1 := goodIn_r wsL_searches_r1 [0, 1, 2, 7, 8, 9, 10, 11, 12, 13, 14, 15, 16, 17, 18, 19, 20, 21, 22, 23, 24, 25, 26, 27] (by decide +kernel) (by decide +kernel)
set_option maxRecDepth 20000 in
theorem ggL_law_L_searches_r2 : GoodIn wsL_law wsL_searches_r2 := goodIn_r wsL_searches_r2 [28, 29, 30, 31, 32, 33, 34, 35, 36, 37, 38, 39, 40, 41, 42, 43, 44, 45, 46, 47, 48, 49, 50, 51] (by decide +kernel) (by decide +kernel)
set_option maxRecDepth 20000 in
theorem ggL_law_L_searches_r3 : GoodIn wsL_law wsL_searches_r3 := goodIn_r wsL_searches_r3 [52, 53, 54, 55, 56, 57, 58, 59, 60, 61, 62, 63, 64, 65, 66, 67, 68, 69, 70, 71, 72, 73, 74, 75] (by decide +kernel) (by decide +kernel)
set_option maxRecDepth 20000 in
theorem ggL_law_L_searches_r4 : GoodIn wsL_law wsL_searches_r4 := goodIn_r wsL_searches_r4 [76, 77, 78, 79, 80, 81, 82, 83, 84, 85, 86, 87, 175, 176, 5, 177, 178, 179, 180, 181, 182, 183, 184, 185] (by decide +kernel) (by decide +kernel)
set_option maxRecDepth 20000 in
theorem ggL_law_L_searches_r5 : GoodIn wsL_law wsL_searches_r5 := goodIn_r wsL_searches_r5 [186, 100, 101, 102, 103, 104, 159, 160, 161, 162, 163, 187, 188, 189, 190, 191, 192, 196, 197, 198, 199, 96, 97, 98] (by decide +kernel) (by decide +kernel)
set_option maxRecDepth 20000 in
theorem ggL_law_L_searches_r6 : GoodIn wsL_law wsL_searches_r6 := goodIn_r wsL_searches_r6 [99, 146, 147, 148, 138, 139, 140, 141, 200, 201, 202, 203, 204, 205, 206, 164, 165, 166, 167, 168, 169, 170, 207, 208] (by decide +kernel) (by decide +kernel)
set_option maxRecDepth 20000 in
theorem ggL_law_L_searches_r7 : GoodIn wsL_law wsL_searches_r7 := goodIn_r wsL_searches_r7 [209, 210, 211, 121, 122, 212, 213, 214, 215, 216, 217, 218, 219, 220, 221, 222, 223, 224, 225, 226, 227, 228, 229, 230] (by decide +kernel) (by decide +kernel)
set_option maxRecDepth 20000 in
theorem ggL_law_L_searches_r8 : GoodIn wsL_law wsL_searches_r8 := goodIn_r wsL_searches_r8 [231, 232, 233, 234, 235, 236, 237, 238, 239, 240, 241, 242, 243, 244, 245, 246, 247, 248, 249, 250, 251, 252, 253, 254] (by decide +kernel) (by decide +kernel)
set_option maxRecDepth 20000 in
theorem ggL_law_L_searches_r9 : GoodIn wsL_law wsL_searches_r9 := goodIn_r wsL_searches_r9 [255, 256, 257, 258, 259, 260, 261, 262, 263, 264, 265, 266, 267, 268, 269, 270, 271, 272, 123, 124, 125, 126, 273, 274] (by decide +kernel) (by decide +kernel)
set_option maxRecDepth 20000 in
theorem ggL_law_L_searches_r10 : GoodIn wsL_law wsL_searches_r10 := goodIn_r wsL_searches_r10 [275, 276, 316, 317, 318, 319, 320, 321, 322, 323, 324, 325, 326, 327, 117, 118, 119, 120, 193, 194, 195, 277, 278, 279] (by decide +kernel) (by decide +kernel)
set_option maxRecDepth 20000 in
theorem ggL_law_L_searches_r11 : GoodIn wsL_law wsL_searches_r11 := goodIn_r wsL_searches_r11 [280, 281, 282, 283, 284, 285, 286, 287, 288, 289, 290, 149, 291, 292, 293, 294, 295, 296, 297, 298, 299, 300, 301, 302] (by decide +kernel) (by decide +kernel)
set_option maxRecDepth 20000 in
theorem ggL_law_L_searches_r12 : GoodIn wsL_law wsL_searches_r12 := goodIn_r wsL_searches_r12 [303, 304, 305, 306, 307, 308, 309, 310, 311, 92, 93, 94, 95, 134, 135, 136, 137, 142, 143, 144, 145, 150, 151, 152] (by decide +kernel) (by decide +kernel)
set_option maxRecDepth 20000 in
theorem ggL_law_L_searches_r13 : GoodIn wsL_law wsL_searches_r13 := goodIn_r wsL_searches_r13 [153, 154, 128, 129, 130, 312, 313, 314, 315, 155, 156, 157, 158, 328, 329, 330, 331, 332, 333, 334, 335, 336, 337, 338] (by decide +kernel) (by decide +kernel)
set_option maxRecDepth 20000 in
theorem ggL_law_L_searches_r14 : GoodIn wsL_law wsL_searches_r14 := goodIn_r wsL_searches_r14 [339, 340, 341, 342, 343, 344, 345, 346, 347, 348, 349, 350, 351, 352, 353, 354, 355, 356, 357, 358, 359, 360, 361, 362] (by decide +kernel) (by decide +kernel)
end
section
set_option maxRecDepth 20000 in
theorem ggL_law_L_searches_r15 : GoodIn wsL_law wsL_searches_r15 := goodIn_r wsL_searches_r15 [363, 364, 365, 366, 367, 368, 369, 370, 371, 372, 373, 374, 375, 376, 377, 378, 379, 380, 381, 382, 127, 383, 384, 385] (by decide +kernel) (by decide +kernel)
set_option maxRecDepth 20000 in
theorem ggL_law_L_searches_r16 : GoodIn wsL_law wsL_searches_r16 := (goodIn_cons (List.mem_of_getElem? (i := 386) (by decide +kernel)) (by decide +kernel) (goodIn_cons (List.mem_of_getElem? (i := 387) (by decide +kernel)) (by decide +kernel) (goodIn_cons (List.mem_of_getElem? (i := 388) (by decide +kernel)) (by decide +kernel) (goodIn_cons (List.mem_of_getElem? (i := 389) (by decide +kernel)) (by decide +kernel) (goodIn_cons (List.mem_of_getElem? (i := 390) (by decide +kernel)) (by decide +kernel) (goodIn_cons (List.mem_of_getElem? (i := 391) (by decide +kernel)) (by decide +kernel) (goodIn_cons (List.mem_of_getElem? (i := 392) (by decide +kernel)) (by decide +kernel) (goodIn_cons (List.mem_of_getElem? (i := 393) (by decide +kernel)) (by decide +kernel) (goodIn_cons (List.mem_of_getElem? (i := 394) (by decide +kernel)) (by decide +kernel) (goodIn_cons (List.mem_of_getElem? (i := 395) (by decide +kernel)) (by decide +kernel) (goodIn_cons (List.mem_of_getElem? (i := 396) (by decide +kernel)) (by decide +kernel) (goodIn_cons (List.mem_of_getElem? (i := 397) (by decide +kernel)) (by decide +kernel) (goodIn_cons (List.mem_of_getElem? (i := 398) (by decide +kernel)) (by decide +kernel) (goodIn_cons (List.mem_of_getElem? (i := 399) (by decide +kernel)) (by decide +kernel) (goodIn_cons (List.mem_of_getElem? (i := 400) (by decide +kernel)) (by decide +kernel) (goodIn_cons (List.mem_of_getElem? (i := 401) (by decide +kernel)) (by decide +kernel) (goodIn_cons (List.mem_of_getElem? (i := 171) (by decide +kernel)) (by decide +kernel) (goodIn_cons (List.mem_of_getElem? (i := 172) (by decide +kernel)) (by decide +kernel) (goodIn_cons (List.mem_of_getElem? (i := 173) rfl) rfl (goodIn_cons (List.mem_of_getElem? (i := 174) (by decide +kernel)) (by decide +kernel) (goodIn_cons (List.mem_of_getElem? (i := 88) (by decide +kernel)) (by decide +kernel) (goodIn_cons (List.mem_of_getElem? (i := 89) (by decide +kernel)) (by decide +kernel) (goodIn_cons (List.mem_of_getElem? (i := 90) (by decide +kernel)) (by decide +kernel) (goodIn_cons (List.mem_of_getElem? (i := 91) (by decide +kernel)) (by decide +kernel) goodIn_nil))))))))))))))))))))))))
set_option maxRecDepth 20000 in
theorem ggL_law_L_searches_r17 : GoodIn wsL_law wsL_searches_r17 := goodIn_r wsL_searches_r17 [105, 106, 107, 108, 109, 110, 111, 112, 113, 114, 115, 116, 402, 403, 404, 405, 406, 407, 408, 409, 410, 411, 412, 413] (by decide +kernel) (by decide +kernel)
set_option maxRecDepth 20000 in
theorem ggL_law_L_searches_r18 : GoodIn wsL_law wsL_searches_r18 := goodIn_r wsL_searches_r18 [414, 415, 416, 417, 418, 419, 420, 421, 422, 423, 424, 425, 426, 430, 431, 432] (by decide +kernel) (by decide +kernel)
set_option maxRecDepth 20000 in
theorem ggL_law_L_searches_wsX50 : GoodIn wsL_law wsX50 := goodIn_r wsX50 [433, 434, 435, 436, 437, 438] (by decide +kernel) (by decide +kernel)
set_option maxRecDepth 20000 in
theorem ggL_law_L_searches_wsX00 : GoodIn wsL_law wsX00 := goodIn_r wsX00 [439, 440] (by decide +kernel) (by decide +kernel)
set_option maxRecDepth 20000 in
theorem ggL_law_L_searches_wsX20 : GoodIn wsL_law wsX20 := goodIn_r wsX20 [441, 442, 443, 444, 445, 446, 447] (by decide +kernel) (by decide +kernel)
set_option maxRecDepth 20000 in
theorem ggL_law_L_searches_wsX40 : GoodIn wsL_law wsX40 := goodIn_r wsX40 [448, 449, 450, 451, 452, 453, 454, 455, 456, 457, 458] (by decide +kernel) (by decide +kernel)
set_option maxRecDepth 20000 in
theorem ggL_law_L_searches_wsX30 : GoodIn wsL_law wsX30 := goodIn_r wsX30 [459, 460] (by decide +kernel) (by decide +kernel)
set_option maxRecDepth 20000 in
theorem ggL_law_L_searches_wsX10 : GoodIn wsL_law wsX10 := goodIn_r wsX10 [461, 462, 463, 464, 465] (by decide +kernel) (by decide +kernel)
set_option maxRecDepth 20000 in
theorem ggL_law_L_searches : GoodIn wsL_law wsL_searches := goodIn_ca (goodIn_ca (goodIn_ca (goodIn_cons (List.mem_of_getElem? (i := 429) rfl) rfl (goodIn_app (goodIn_app (goodIn_app (goodIn_app (goodIn_app (goodIn_app (goodIn_app ggL_law_L_searches_r1 (goodIn_app ggL_law_L_searches_r2 (goodIn_app ggL_law_L_searches_r3 (goodIn_app ggL_law_L_searches_r4 (goodIn_app ggL_law_L_searches_r5 (goodIn_app ggL_law_L_searches_r6 (goodIn_app ggL_law_L_searches_r7 (goodIn_app ggL_law_L_searches_r8 (goodIn_app ggL_law_L_searches_r9 (goodIn_app ggL_law_L_searches_r10 (goodIn_app ggL_law_L_searches_r11 (goodIn_app ggL_law_L_searches_r12 (goodIn_app ggL_law_L_searches_r13 (goodIn_app ggL_law_L_searches_r14 (goodIn_app ggL_law_L_searches_r15 (goodIn_app ggL_law_L_searches_r16 (goodIn_app ggL_law_L_searches_r17 ggL_law_L_searches_r18))))))))))))))))) ggL_law_L_searches_wsX50) ggL_law_L_searches_wsX00) ggL_law_L_searches_wsX20) ggL_law_L_searches_wsX40) ggL_law_L_searches_wsX30) ggL_law_L_searches_wsX10)) (goodIn_sub (fun _ h => List.mem_append_right _ h) (by decide +kernel))) (goodIn_sub (fun _ h => List.mem_append_left _ (List.mem_append_left _ (List.mem_append_right _ h))) (by decide +kernel))) (goodIn_sub (fun _ h => List.mem_append_left _ (List.mem_append_right _ h)) (by decide +kernel))
set_option maxRecDepth 20000 in
theorem gL_law_L_searches : GoodIn wsL_law (va_wsS RL 127 yL_searches wsL_searches) := goodIn_app (goodIn_of _ (by decide +kernel)) ggL_law_L_searches
set_option maxRecDepth 20000 in
theorem ggL_law_X5_init : GoodIn wsL_law wsX5_init := goodIn_r _ [9, 10, 11, 12, 13, 14, 15, 16, 17, 18, 19, 20, 21, 22, 23, 24, 25, 26, 27, 28, 29, 30, 31, 32, 33, 34, 35, 36, 37, 38, 39, 40, 41, 42, 43, 44, 45, 46, 47, 48, 49, 50, 51, 52, 53, 54, 55, 56, 57, 58, 59, 60, 61, 62, 63, 64, 65, 66, 67, 68, 69, 70, 71, 72, 73, 74, 75, 76, 77, 78, 79, 80, 81, 82, 83, 84, 85, 86, 87, 439, 440, 433, 434, 435, 436, 437, 438, 441, 442, 443, 444, 445, 446, 447, 448, 449, 450, 451, 452, 453, 454, 455, 456, 457, 458, 459, 460, 461, 462, 463, 464, 465] (by decide +kernel) (by decide +kernel)
set_option maxRecDepth 20000 in
theorem gL_law_X5_init : GoodIn wsL_law (wsX5_init) := ggL_law_X5_init
set_option maxRecDepth 20000 in
theorem ggL_law_X5_find : GoodIn wsL_law wsX5_find := goodIn_ca (goodIn_ca (goodIn_r _ [158, 96, 97, 98, 2, 99, 24, 25, 100, 101, 102, 103, 104, 146, 147, 148, 138, 139, 140, 23, 141, 60, 159, 160, 161, 162, 163, 164, 165, 166, 167, 61, 62, 168, 169, 170, 433, 434, 435, 436, 437, 438, 448, 449, 450, 451, 452, 453, 454, 455, 456, 457, 458] (by decide +kernel) (by decide +kernel)) (goodIn_sub (fun _ h => List.mem_append_left _ (List.mem_append_left _ (List.mem_append_right _ h))) (by decide +kernel))) (goodIn_sub (fun _ h => List.mem_append_left _ (List.mem_append_right _ h)) (by decide +kernel))
set_option maxRecDepth 20000 in
theorem gL_law_X5_find : GoodIn wsL_law (wsV RL 67 RX5 yX5_find wsX5_find) := goodIn_app (goodIn_of _ (by decide +kernel)) ggL_law_X5_find
set_option maxRecDepth 20000 in
theorem ggL_law_X5_add : GoodIn wsL_law wsX5_add := goodIn_ca (goodIn_ca (goodIn_ca (goodIn_r _ [199, 20, 96, 97, 98, 2, 99, 24, 25, 100, 101, 102, 103, 104, 146, 147, 148, 138, 139, 140, 23, 141, 60, 159, 160, 161, 162, 163, 200, 201, 202, 203, 185, 186, 204, 205, 206, 164, 165, 166, 167, 61, 62, 168, 169, 170, 207, 208, 209, 210, 211, 66, 58, 65, 121, 122, 212, 213, 214, 19, 215, 49, 216, 217, 218, 219, 220, 221, 222, 223, 48, 50, 51, 52, 53, 191, 192, 224, 225, 226, 227, 228, 229, 230, 231, 232, 233, 234, 235, 68, 69, 70, 71, 63, 64, 72, 73, 42, 43, 44, 236, 237, 238, 239, 240, 241, 242, 243, 244, 245, 246, 247, 248, 249, 250, 251, 252, 253, 254, 255, 256, 257, 67, 258, 259, 260, 15, 261, 40, 262, 263, 264, 265, 266, 267, 268, 269, 270, 271, 272, 123, 124, 125, 126, 273, 274, 275, 276, 433, 434, 435, 436, 437, 438, 441, 442, 443, 444, 445, 446, 447, 448, 449, 450, 451, 452, 453, 454, 455, 456, 457, 458, 439, 440] (by decide +kernel) (by decide +kernel)) (goodIn_sub (fun _ h => List.mem_append_left _ (List.mem_append_left _ (List.mem_append_right _ h))) (by decide +kernel))) (goodIn_sub (fun _ h => List.mem_append_left _ (List.mem_append_right _ h)) (by decide +kernel))) (goodIn_sub (fun _ h => List.mem_append_right _ h) (by decide +kernel))
set_option maxRecDepth 20000 in
theorem gL_law_X5_add : GoodIn wsL_law (wsV RL 26 RX5 yX5_add wsX5_add) := goodIn_app (goodIn_of _ (by decide +kernel)) ggL_law_X5_add
set_option maxRecDepth 20000 in
theorem ggL_law_X5_set : GoodIn wsL_law wsX5_set := goodIn_ca (goodIn_ca (goodIn_ca (goodIn_r _ [280, 185, 186, 20, 96, 97, 98, 2, 99, 24, 25, 100, 101, 102, 103, 104, 146, 147, 148, 138, 139, 140, 23, 141, 60, 159, 160, 161, 162, 163, 200, 201, 202, 203, 281, 255, 256, 257, 67, 63, 121, 122, 258, 259, 260, 15, 261, 40, 262, 263, 264, 282, 118, 119, 120, 64, 207, 208, 209, 210, 211, 66, 58, 65, 212, 213, 214, 19, 215, 49, 216, 217, 218, 219, 220, 221, 222, 223, 48, 50, 51, 52, 53, 191, 192, 224, 225, 226, 227, 228, 229, 230, 231, 232, 233, 234, 235, 68, 69, 70, 71, 61, 62, 72, 73, 42, 43, 44, 236, 237, 238, 239, 240, 241, 242, 243, 244, 245, 246, 247, 248, 249, 165, 166, 167, 168, 169, 170, 250, 251, 252, 253, 254, 265, 266, 267, 268, 269, 270, 271, 272, 123, 124, 125, 126, 273, 274, 275, 276, 433, 434, 435, 436, 437, 438, 448, 449, 450, 451, 452, 453, 454, 455, 456, 457, 458, 441, 442, 443, 444, 445, 446, 447, 439, 440] (by decide +kernel) (by decide +kernel)) (goodIn_sub (fun _ h => List.mem_append_right _ h) (by decide +kernel))) (goodIn_sub (fun _ h => List.mem_append_left _ (List.mem_append_left _ (List.mem_append_right _ h))) (by decide +kernel))) (goodIn_sub (fun _ h => List.mem_append_left _ (List.mem_append_right _ h)) (by decide +kernel))
set_option maxRecDepth 20000 in
theorem gL_law_X5_set : GoodIn wsL_law (wsV RL 30 RX5 yX5_set wsX5_set) := goodIn_app (goodIn_of _ (by decide +kernel)) ggL_law_X5_set
end
section
set_option maxRecDepth 20000 in
theorem ggL_law_X5_changes : GoodIn wsL_law wsX5_changes := goodIn_r _ [91, 20, 433, 434, 435, 436, 437, 438, 441, 442, 443, 444, 445, 446, 447] (by decide +kernel) (by decide +kernel)
set_option maxRecDepth 20000 in
theorem gL_law_X5_changes : GoodIn wsL_law (wsV RL 83 RX5 yX5_changes wsX5_changes) := goodIn_app (goodIn_of _ (by decide +kernel)) ggL_law_X5_changes
set_option maxRecDepth 20000 in
theorem ggL_law_X5_timeOf : GoodIn wsL_law wsX5_timeOf := goodIn_ca (goodIn_r _ [310, 20, 100, 101, 2, 102, 103, 104, 311, 213, 214, 19, 215, 49, 121, 122, 433, 434, 435, 436, 437, 438, 441, 442, 443, 444, 445, 446, 447] (by decide +kernel) (by decide +kernel)) (goodIn_sub (fun _ h => List.mem_append_left _ (List.mem_append_left _ (List.mem_append_right _ h))) (by decide +kernel))
set_option maxRecDepth 20000 in
theorem gL_law_X5_timeOf : GoodIn wsL_law (wsV RL 44 RX5 yX5_timeOf wsX5_timeOf) := goodIn_app (goodIn_of _ (by decide +kernel)) ggL_law_X5_timeOf
set_option maxRecDepth 20000 in
theorem ggL_law_X5_carry : GoodIn wsL_law wsX5_carry := goodIn_ca (goodIn_r _ [302, 20, 100, 101, 2, 102, 103, 104, 96, 97, 98, 99, 24, 25, 303, 304, 305, 23, 306, 211, 58, 224, 225, 226, 227, 228, 229, 230, 231, 66, 121, 122, 232, 233, 234, 19, 235, 49, 191, 192, 68, 69, 70, 71, 60, 61, 62, 63, 64, 72, 73, 42, 43, 44, 236, 237, 238, 239, 240, 241, 242, 243, 244, 245, 246, 247, 248, 139, 140, 141, 249, 165, 166, 167, 168, 169, 170, 250, 251, 252, 253, 254, 255, 256, 257, 67, 258, 259, 260, 15, 261, 40, 262, 263, 264, 265, 266, 267, 268, 269, 270, 271, 272, 123, 124, 125, 126, 273, 274, 275, 276, 433, 434, 435, 436, 437, 438, 441, 442, 443, 444, 445, 446, 447, 448, 449, 450, 451, 452, 453, 454, 455, 456, 457, 458, 439, 440] (by decide +kernel) (by decide +kernel)) (goodIn_sub (fun _ h => List.mem_append_left _ (List.mem_append_left _ (List.mem_append_right _ h))) (by decide +kernel))
set_option maxRecDepth 20000 in
theorem gL_law_X5_carry : GoodIn wsL_law (wsV RL 40 RX5 yX5_carry wsX5_carry) := goodIn_app (goodIn_of _ (by decide +kernel)) ggL_law_X5_carry
set_option maxRecDepth 20000 in
theorem ggL_law_L_refuses_r1 : GoodIn wsL_law wsL_refuses_r1 := goodIn_r wsL_refuses_r1 [174, 88, 89, 90, 2, 91, 20, 92, 93, 94, 95, 96, 97, 98, 99, 24, 25, 100, 101, 102, 103, 104, 105, 106] (by decide +kernel) (by decide +kernel)
set_option maxRecDepth 20000 in
theorem ggL_law_L_refuses_r2 : GoodIn wsL_law wsL_refuses_r2 := goodIn_r wsL_refuses_r2 [107, 108, 109, 110, 111, 23, 112, 60, 113, 114, 115, 116, 63, 117, 118, 119, 120, 64, 121, 122, 123, 124, 125, 126] (by decide +kernel) (by decide +kernel)
set_option maxRecDepth 20000 in
theorem ggL_law_L_refuses_r3 : GoodIn wsL_law wsL_refuses_r3 := goodIn_r wsL_refuses_r3 [61, 127, 128, 129, 130, 62, 175, 176, 5, 177, 178, 179, 180, 181, 182, 183, 184, 185, 186, 16, 159, 160, 161, 162] (by decide +kernel) (by decide +kernel)
set_option maxRecDepth 20000 in
theorem ggL_law_L_refuses_r4 : GoodIn wsL_law wsL_refuses_r4 := goodIn_r wsL_refuses_r4 [163, 187, 188, 189, 15, 190, 39, 40, 191, 192, 193, 194, 195, 196, 197, 198, 199, 146, 147, 148, 138, 139, 140, 141] (by decide +kernel) (by decide +kernel)
set_option maxRecDepth 20000 in
theorem ggL_law_L_refuses_r5 : GoodIn wsL_law wsL_refuses_r5 := goodIn_r wsL_refuses_r5 [200, 201, 202, 203, 204, 205, 206, 164, 165, 166, 167, 168, 169, 170, 207, 208, 209, 210, 211, 66, 58, 65, 212, 213] (by decide +kernel) (by decide +kernel)
set_option maxRecDepth 20000 in
theorem ggL_law_L_refuses_r6 : GoodIn wsL_law wsL_refuses_r6 := goodIn_r wsL_refuses_r6 [214, 19, 215, 49, 216, 217, 218, 219, 220, 221, 222, 223, 48, 50, 51, 52, 53, 224, 225, 226, 227, 228, 229, 230] (by decide +kernel) (by decide +kernel)
set_option maxRecDepth 20000 in
theorem ggL_law_L_refuses_r7 : GoodIn wsL_law wsL_refuses_r7 := goodIn_r wsL_refuses_r7 [231, 232, 233, 234, 235, 68, 69, 70, 71, 72, 73, 42, 43, 44, 236, 237, 238, 239, 240, 241, 242, 243, 244, 245] (by decide +kernel) (by decide +kernel)
set_option maxRecDepth 20000 in
theorem ggL_law_L_refuses_r8 : GoodIn wsL_law wsL_refuses_r8 := goodIn_r wsL_refuses_r8 [246, 247, 248, 249, 250, 251, 252, 253, 254, 255, 256, 257, 67, 258, 259, 260, 261, 262, 263, 264, 265, 266, 267, 268] (by decide +kernel) (by decide +kernel)
set_option maxRecDepth 20000 in
theorem ggL_law_L_refuses_r9 : GoodIn wsL_law wsL_refuses_r9 := goodIn_r wsL_refuses_r9 [269, 270, 271, 272, 273, 274, 275, 276, 277, 278, 279, 280, 281, 282, 283, 284, 285, 286, 287, 288, 289, 290, 149, 291] (by decide +kernel) (by decide +kernel)
set_option maxRecDepth 20000 in
theorem ggL_law_L_refuses_r10 : GoodIn wsL_law wsL_refuses_r10 := goodIn_r wsL_refuses_r10 [292, 293, 294, 295, 296, 297, 298, 299, 300, 301, 302, 303, 304, 305, 306, 307, 308, 309, 310, 311, 134, 135, 136, 137] (by decide +kernel) (by decide +kernel)
set_option maxRecDepth 20000 in
theorem ggL_law_L_refuses_r11 : GoodIn wsL_law wsL_refuses_r11 := goodIn_r wsL_refuses_r11 [142, 143, 144, 145, 150, 151, 152, 153, 154, 312, 313, 314, 315, 316, 317, 318, 319, 320, 321, 322, 323, 324, 325, 326] (by decide +kernel) (by decide +kernel)
set_option maxRecDepth 20000 in
theorem ggL_law_L_refuses_r12 : GoodIn wsL_law wsL_refuses_r12 := goodIn_r wsL_refuses_r12 [327, 155, 156, 157, 158, 328, 329, 330, 331, 33, 332, 333, 334, 335, 336, 337, 338, 32, 339, 340, 84, 85, 86, 341] (by decide +kernel) (by decide +kernel)
set_option maxRecDepth 20000 in
theorem ggL_law_L_refuses_r13 : GoodIn wsL_law wsL_refuses_r13 := goodIn_r wsL_refuses_r13 [342, 343, 344, 345, 346, 347, 348, 349, 350, 351, 352, 87, 353, 354, 355, 356, 357, 358, 359, 360, 361, 362, 363, 364] (by decide +kernel) (by decide +kernel)
set_option maxRecDepth 20000 in
theorem ggL_law_L_refuses_r14 : GoodIn wsL_law wsL_refuses_r14 := goodIn_r wsL_refuses_r14 [365, 366, 367, 368, 369, 370, 29, 371, 372, 373, 374, 375, 376, 377, 28, 378, 79, 379, 380, 381, 382, 383, 384, 385] (by decide +kernel) (by decide +kernel)
end
section
set_option maxRecDepth 20000 in
theorem ggL_law_L_refuses_r15 : GoodIn wsL_law wsL_refuses_r15 := goodIn_r wsL_refuses_r15 [386, 387, 388, 389, 390, 78, 391, 392, 393, 394, 395, 396, 397, 398, 399, 400, 401, 402, 403, 404, 405, 406, 407, 408] (by decide +kernel) (by decide +kernel)
set_option maxRecDepth 20000 in
theorem ggL_law_L_refuses_r16 : GoodIn wsL_law wsL_refuses_r16 := goodIn_r wsL_refuses_r16 [409, 410, 411, 412, 413, 414, 415, 416, 417, 418, 419, 420, 421, 422, 423, 424, 425, 426] (by decide +kernel) (by decide +kernel)
set_option maxRecDepth 20000 in
theorem ggL_law_L_refuses_wsX50 : GoodIn wsL_law wsX50 := goodIn_r wsX50 [433, 434, 435, 436, 437, 438] (by decide +kernel) (by decide +kernel)
set_option maxRecDepth 20000 in
theorem ggL_law_L_refuses_wsX20 : GoodIn wsL_law wsX20 := goodIn_r wsX20 [441, 442, 443, 444, 445, 446, 447] (by decide +kernel) (by decide +kernel)
set_option maxRecDepth 20000 in
theorem ggL_law_L_refuses_wsX40 : GoodIn wsL_law wsX40 := goodIn_r wsX40 [448, 449, 450, 451, 452, 453, 454, 455, 456, 457, 458] (by decide +kernel) (by decide +kernel)
set_option maxRecDepth 20000 in
theorem ggL_law_L_refuses_wsX00 : GoodIn wsL_law wsX00 := goodIn_r wsX00 [439, 440] (by decide +kernel) (by decide +kernel)
set_option maxRecDepth 20000 in
theorem ggL_law_L_refuses_wsX10 : GoodIn wsL_law wsX10 := goodIn_r wsX10 [461, 462, 463, 464, 465] (by decide +kernel) (by decide +kernel)
set_option maxRecDepth 20000 in
theorem ggL_law_L_refuses_wsX30 : GoodIn wsL_law wsX30 := goodIn_r wsX30 [459, 460] (by decide +kernel) (by decide +kernel)
set_option maxRecDepth 20000 in
theorem ggL_law_L_refuses : GoodIn wsL_law wsL_refuses := goodIn_ca (goodIn_ca (goodIn_ca (goodIn_cons (List.mem_of_getElem? (i := 173) rfl) rfl (goodIn_app (goodIn_app (goodIn_app (goodIn_app (goodIn_app (goodIn_app (goodIn_app ggL_law_L_refuses_r1 (goodIn_app ggL_law_L_refuses_r2 (goodIn_app ggL_law_L_refuses_r3 (goodIn_app ggL_law_L_refuses_r4 (goodIn_app ggL_law_L_refuses_r5 (goodIn_app ggL_law_L_refuses_r6 (goodIn_app ggL_law_L_refuses_r7 (goodIn_app ggL_law_L_refuses_r8 (goodIn_app ggL_law_L_refuses_r9 (goodIn_app ggL_law_L_refuses_r10 (goodIn_app ggL_law_L_refuses_r11 (goodIn_app ggL_law_L_refuses_r12 (goodIn_app ggL_law_L_refuses_r13 (goodIn_app ggL_law_L_refuses_r14 (goodIn_app ggL_law_L_refuses_r15 ggL_law_L_refuses_r16))))))))))))))) ggL_law_L_refuses_wsX50) ggL_law_L_refuses_wsX20) ggL_law_L_refuses_wsX40) ggL_law_L_refuses_wsX00) ggL_law_L_refuses_wsX10) ggL_law_L_refuses_wsX30)) (goodIn_sub (fun _ h => List.mem_append_left _ (List.mem_append_left _ (List.mem_append_right _ h))) (by decide +kernel))) (goodIn_sub (fun _ h => List.mem_append_right _ h) (by decide +kernel))) (goodIn_sub (fun _ h => List.mem_append_left _ (List.mem_append_right _ h)) (by decide +kernel))
set_option maxRecDepth 20000 in
theorem gL_law_L_refuses : GoodIn wsL_law (va_wsS RL 116 yL_refuses wsL_refuses) := goodIn_app (goodIn_of _ (by decide +kernel)) ggL_law_L_refuses
set_option maxRecDepth 20000 in
theorem ggL_law_L_act : GoodIn wsL_law wsL_act := goodIn_ca (goodIn_ca (goodIn_ca (goodIn_r _ [195, 178, 179, 180, 196, 197, 198, 2, 199, 20, 96, 97, 98, 99, 24, 25, 100, 101, 102, 103, 104, 146, 147, 148, 138, 139, 140, 23, 141, 60, 159, 160, 161, 162, 163, 200, 201, 202, 203, 185, 186, 204, 205, 206, 164, 165, 166, 167, 61, 62, 168, 169, 170, 207, 208, 209, 210, 211, 66, 58, 65, 121, 122, 212, 213, 214, 19, 215, 49, 216, 217, 218, 219, 220, 221, 222, 223, 48, 50, 51, 52, 53, 191, 192, 224, 225, 226, 227, 228, 229, 230, 231, 232, 233, 234, 235, 68, 69, 70, 71, 63, 64, 72, 73, 42, 43, 44, 236, 237, 238, 239, 240, 241, 242, 243, 244, 245, 246, 247, 248, 249, 250, 251, 252, 253, 254, 255, 256, 257, 67, 258, 259, 260, 15, 261, 40, 262, 263, 264, 265, 266, 267, 268, 269, 270, 271, 272, 123, 124, 125, 126, 273, 274, 275, 276, 277, 278, 279, 280, 281, 282, 118, 119, 120, 283, 284, 285, 286, 287, 288, 289, 290, 149, 291, 292, 293, 294, 295, 296, 297, 298, 299, 300, 301, 302, 303, 304, 305, 306, 307, 308, 309, 310, 311, 92, 93, 94, 95, 134, 135, 136, 137, 142, 143, 144, 145, 150, 151, 152, 153, 154, 128, 129, 130, 312, 313, 314, 315, 316, 317, 318, 319, 320, 321, 322, 323, 324, 325, 326, 327, 39, 117, 155, 156, 157, 158, 328, 329, 330, 331, 33, 332, 333, 334, 335, 336, 337, 338, 32, 339, 340, 84, 85, 86, 341, 342, 343, 344, 345, 346, 347, 348, 349, 350, 351, 352, 87, 353, 354, 355, 356, 357, 358, 359, 360, 361, 362, 363, 364, 365, 366, 367, 368, 369, 370, 29, 371, 372, 373, 374, 375, 376, 377, 28, 378, 79, 379, 380, 381, 382, 127, 383, 384, 385, 386, 387, 388, 389, 390, 78, 391, 392, 393, 394, 395, 396, 397, 398, 399, 400, 401, 433, 434, 435, 436, 437, 438, 441, 442, 443, 444, 445, 446, 447, 448, 449, 450, 451, 452, 453, 454, 455, 456, 457, 458, 439, 440, 461, 462, 463, 464, 465, 459, 460] (by decide +kernel) (by decide +kernel)) (goodIn_sub (fun _ h => List.mem_append_left _ (List.mem_append_left _ (List.mem_append_right _ h))) (by decide +kernel))) (goodIn_sub (fun _ h => List.mem_append_left _ (List.mem_append_right _ h)) (by decide +kernel))) (goodIn_sub (fun _ h => List.mem_append_right _ h) (by decide +kernel))
set_option maxRecDepth 20000 in
theorem gL_law_L_act : GoodIn wsL_law (va_wsS RL 98 yL_act wsL_act) := goodIn_app (goodIn_of _ (by decide +kernel)) ggL_law_L_act
end
section
theorem dL_kind_0 : decode cL_kind 0 = .ok (.aload_n 0, 1) := by decide +kernel
theorem dL_kind_1 : decode cL_kind 1 = .ok (.iload_n 1, 1) := by decide +kernel
theorem dL_kind_2 : decode cL_kind 2 = .ok (.iload_n 2, 1) := by decide +kernel
theorem dL_kind_3 : decode cL_kind 3 = .ok (.iload_n 3, 1) := by decide +kernel
theorem dL_kind_4 : decode cL_kind 4 = .ok (.invokevirtual 7, 3) := by decide +kernel
theorem dL_kind_7 : decode cL_kind 7 = .ok (.iconst 0, 1) := by decide +kernel
theorem dL_kind_8 : decode cL_kind 8 = .ok (.ireturn, 1) := by decide +kernel
theorem dL_kind_9 : decode cL_kind 9 = .ok (.astore 4, 2) := by decide +kernel
theorem dL_kind_11 : decode cL_kind 11 = .ok (.bipush (-71), 2) := by decide +kernel
theorem dL_kind_13 : decode cL_kind 13 = .ok (.ireturn, 1) := by decide +kernel
theorem dL_kind_14 : decode cL_kind 14 = .ok (.astore 4, 2) := by decide +kernel
theorem dL_kind_16 : decode cL_kind 16 = .ok (.bipush (-72), 2) := by decide +kernel
theorem dL_kind_18 : decode cL_kind 18 = .ok (.ireturn, 1) := by decide +kernel
theorem dL_kind_19 : decode cL_kind 19 = .ok (.astore 4, 2) := by decide +kernel
theorem dL_kind_21 : decode cL_kind 21 = .ok (.bipush (-73), 2) := by decide +kernel
theorem dL_kind_23 : decode cL_kind 23 = .ok (.ireturn, 1) := by decide +kernel
theorem dL_right_0 : decode cL_right 0 = .ok (.aload_n 0, 1) := by decide +kernel
theorem dL_right_1 : decode cL_right 1 = .ok (.iload_n 1, 1) := by decide +kernel
theorem dL_right_2 : decode cL_right 2 = .ok (.iload_n 2, 1) := by decide +kernel
theorem dL_right_3 : decode cL_right 3 = .ok (.iload_n 3, 1) := by decide +kernel
theorem dL_right_4 : decode cL_right 4 = .ok (.invokevirtual 19, 3) := by decide +kernel
theorem dL_right_7 : decode cL_right 7 = .ok (.iconst 0, 1) := by decide +kernel
theorem dL_right_8 : decode cL_right 8 = .ok (.ireturn, 1) := by decide +kernel
theorem dL_right_9 : decode cL_right 9 = .ok (.astore 4, 2) := by decide +kernel
theorem dL_right_11 : decode cL_right 11 = .ok (.bipush (-71), 2) := by decide +kernel
theorem dL_right_13 : decode cL_right 13 = .ok (.ireturn, 1) := by decide +kernel
theorem dL_right_14 : decode cL_right 14 = .ok (.astore 4, 2) := by decide +kernel
theorem dL_right_16 : decode cL_right 16 = .ok (.bipush (-72), 2) := by decide +kernel
theorem dL_right_18 : decode cL_right 18 = .ok (.ireturn, 1) := by decide +kernel
theorem dL_refer_0 : decode cL_refer 0 = .ok (.aload_n 0, 1) := by decide +kernel
theorem dL_refer_1 : decode cL_refer 1 = .ok (.iload_n 1, 1) := by decide +kernel
theorem dL_refer_2 : decode cL_refer 2 = .ok (.iload_n 2, 1) := by decide +kernel
theorem dL_refer_3 : decode cL_refer 3 = .ok (.invokevirtual 22, 3) := by decide +kernel
theorem dL_refer_6 : decode cL_refer 6 = .ok (.iconst 0, 1) := by decide +kernel
theorem dL_refer_7 : decode cL_refer 7 = .ok (.ireturn, 1) := by decide +kernel
theorem dL_refer_8 : decode cL_refer 8 = .ok (.astore_n 3, 1) := by decide +kernel
theorem dL_refer_9 : decode cL_refer 9 = .ok (.bipush (-71), 2) := by decide +kernel
theorem dL_refer_11 : decode cL_refer 11 = .ok (.ireturn, 1) := by decide +kernel
theorem dL_search_0 : decode cL_search 0 = .ok (.aload_n 0, 1) := by decide +kernel
theorem dL_search_1 : decode cL_search 1 = .ok (.iload_n 1, 1) := by decide +kernel
theorem dL_search_2 : decode cL_search 2 = .ok (.iload_n 2, 1) := by decide +kernel
theorem dL_search_3 : decode cL_search 3 = .ok (.iload_n 3, 1) := by decide +kernel
theorem dL_search_4 : decode cL_search 4 = .ok (.iload 4, 2) := by decide +kernel
theorem dL_search_6 : decode cL_search 6 = .ok (.iload 5, 2) := by decide +kernel
theorem dL_search_8 : decode cL_search 8 = .ok (.iload 6, 2) := by decide +kernel
theorem dL_search_10 : decode cL_search 10 = .ok (.invokevirtual 79, 3) := by decide +kernel
theorem dL_search_13 : decode cL_search 13 = .ok (.ireturn, 1) := by decide +kernel
theorem dL_search_14 : decode cL_search 14 = .ok (.astore 7, 2) := by decide +kernel
theorem dL_search_16 : decode cL_search 16 = .ok (.bipush (-71), 2) := by decide +kernel
theorem dL_search_18 : decode cL_search 18 = .ok (.ireturn, 1) := by decide +kernel
theorem dL_search_19 : decode cL_search 19 = .ok (.astore 7, 2) := by decide +kernel
theorem dL_search_21 : decode cL_search 21 = .ok (.bipush (-72), 2) := by decide +kernel
theorem dL_search_23 : decode cL_search 23 = .ok (.ireturn, 1) := by decide +kernel
theorem dL_at_0 : decode cL_at 0 = .ok (.aload_n 0, 1) := by decide +kernel
theorem dL_at_1 : decode cL_at 1 = .ok (.iload_n 1, 1) := by decide +kernel
theorem dL_at_2 : decode cL_at 2 = .ok (.iload_n 2, 1) := by decide +kernel
theorem dL_at_3 : decode cL_at 3 = .ok (.invokevirtual 51, 3) := by decide +kernel
theorem dL_at_6 : decode cL_at 6 = .ok (.ifCond .eq 28, 3) := by decide +kernel
theorem dL_at_9 : decode cL_at 9 = .ok (.aload_n 0, 1) := by decide +kernel
theorem dL_at_10 : decode cL_at 10 = .ok (.iload_n 1, 1) := by decide +kernel
theorem dL_at_11 : decode cL_at 11 = .ok (.iload_n 2, 1) := by decide +kernel
theorem dL_at_12 : decode cL_at 12 = .ok (.invokevirtual 54, 3) := by decide +kernel
theorem dL_at_15 : decode cL_at 15 = .ok (.iload_n 3, 1) := by decide +kernel
theorem dL_at_16 : decode cL_at 16 = .ok (.if_icmp .ne 18, 3) := by decide +kernel
theorem dL_at_19 : decode cL_at 19 = .ok (.aload_n 0, 1) := by decide +kernel
theorem dL_at_20 : decode cL_at 20 = .ok (.iload_n 1, 1) := by decide +kernel
theorem dL_at_21 : decode cL_at 21 = .ok (.iload_n 2, 1) := by decide +kernel
theorem dL_at_22 : decode cL_at 22 = .ok (.invokevirtual 57, 3) := by decide +kernel
theorem dL_at_25 : decode cL_at 25 = .ok (.iload 4, 2) := by decide +kernel
theorem dL_at_27 : decode cL_at 27 = .ok (.if_icmp .ne 7, 3) := by decide +kernel
theorem dL_at_30 : decode cL_at 30 = .ok (.iconst 1, 1) := by decide +kernel
theorem dL_at_31 : decode cL_at 31 = .ok (.goto 4, 3) := by decide +kernel
theorem dL_at_34 : decode cL_at 34 = .ok (.iconst 0, 1) := by decide +kernel
theorem dL_at_35 : decode cL_at 35 = .ok (.ireturn, 1) := by decide +kernel
theorem dL_finds_0 : decode cL_finds 0 = .ok (.iload 5, 2) := by decide +kernel
theorem dL_finds_2 : decode cL_finds 2 = .ok (.ifCond .ge 7, 3) := by decide +kernel
theorem dL_finds_5 : decode cL_finds 5 = .ok (.iconst 0, 1) := by decide +kernel
theorem dL_finds_6 : decode cL_finds 6 = .ok (.goto 31, 3) := by decide +kernel
theorem dL_finds_9 : decode cL_finds 9 = .ok (.iload 6, 2) := by decide +kernel
theorem dL_finds_11 : decode cL_finds 11 = .ok (.ifCond .ge 7, 3) := by decide +kernel
theorem dL_finds_14 : decode cL_finds 14 = .ok (.iconst 1, 1) := by decide +kernel
theorem dL_finds_15 : decode cL_finds 15 = .ok (.goto 22, 3) := by decide +kernel
theorem dL_finds_18 : decode cL_finds 18 = .ok (.iload 7, 2) := by decide +kernel
theorem dL_finds_20 : decode cL_finds 20 = .ok (.ifCond .ge 7, 3) := by decide +kernel
theorem dL_finds_23 : decode cL_finds 23 = .ok (.iconst 2, 1) := by decide +kernel
theorem dL_finds_24 : decode cL_finds 24 = .ok (.goto 13, 3) := by decide +kernel
theorem dL_finds_27 : decode cL_finds 27 = .ok (.iload 8, 2) := by decide +kernel
theorem dL_finds_29 : decode cL_finds 29 = .ok (.ifCond .ge 7, 3) := by decide +kernel
theorem dL_finds_32 : decode cL_finds 32 = .ok (.iconst 3, 1) := by decide +kernel
theorem dL_finds_33 : decode cL_finds 33 = .ok (.goto 4, 3) := by decide +kernel
theorem dL_finds_36 : decode cL_finds 36 = .ok (.iconst 4, 1) := by decide +kernel
theorem dL_finds_37 : decode cL_finds 37 = .ok (.istore 9, 2) := by decide +kernel
theorem dL_finds_39 : decode cL_finds 39 = .ok (.iload 9, 2) := by decide +kernel
theorem dL_finds_41 : decode cL_finds 41 = .ok (.iconst 1, 1) := by decide +kernel
theorem dL_finds_42 : decode cL_finds 42 = .ok (.if_icmp .lt 19, 3) := by decide +kernel
theorem dL_finds_45 : decode cL_finds 45 = .ok (.aload_n 0, 1) := by decide +kernel
theorem dL_finds_46 : decode cL_finds 46 = .ok (.iconst 0, 1) := by decide +kernel
theorem dL_finds_47 : decode cL_finds 47 = .ok (.iload_n 1, 1) := by decide +kernel
theorem dL_finds_48 : decode cL_finds 48 = .ok (.iload_n 2, 1) := by decide +kernel
theorem dL_finds_49 : decode cL_finds 49 = .ok (.iload_n 3, 1) := by decide +kernel
theorem dL_finds_50 : decode cL_finds 50 = .ok (.iload 4, 2) := by decide +kernel
theorem dL_finds_52 : decode cL_finds 52 = .ok (.iconst 0, 1) := by decide +kernel
theorem dL_finds_53 : decode cL_finds 53 = .ok (.invokevirtual 79, 3) := by decide +kernel
theorem dL_finds_56 : decode cL_finds 56 = .ok (.iload 5, 2) := by decide +kernel
theorem dL_finds_58 : decode cL_finds 58 = .ok (.if_icmp .ne 89, 3) := by decide +kernel
theorem dL_finds_61 : decode cL_finds 61 = .ok (.iload 9, 2) := by decide +kernel
theorem dL_finds_63 : decode cL_finds 63 = .ok (.iconst 2, 1) := by decide +kernel
theorem dL_finds_64 : decode cL_finds 64 = .ok (.if_icmp .lt 19, 3) := by decide +kernel
theorem dL_finds_67 : decode cL_finds 67 = .ok (.aload_n 0, 1) := by decide +kernel
theorem dL_finds_68 : decode cL_finds 68 = .ok (.iconst 0, 1) := by decide +kernel
theorem dL_finds_69 : decode cL_finds 69 = .ok (.iload_n 1, 1) := by decide +kernel
theorem dL_finds_70 : decode cL_finds 70 = .ok (.iload_n 2, 1) := by decide +kernel
theorem dL_finds_71 : decode cL_finds 71 = .ok (.iload_n 3, 1) := by decide +kernel
theorem dL_finds_72 : decode cL_finds 72 = .ok (.iload 4, 2) := by decide +kernel
theorem dL_finds_74 : decode cL_finds 74 = .ok (.iconst 1, 1) := by decide +kernel
theorem dL_finds_75 : decode cL_finds 75 = .ok (.invokevirtual 79, 3) := by decide +kernel
theorem dL_finds_78 : decode cL_finds 78 = .ok (.iload 6, 2) := by decide +kernel
theorem dL_finds_80 : decode cL_finds 80 = .ok (.if_icmp .ne 67, 3) := by decide +kernel
theorem dL_finds_83 : decode cL_finds 83 = .ok (.iload 9, 2) := by decide +kernel
theorem dL_finds_85 : decode cL_finds 85 = .ok (.iconst 3, 1) := by decide +kernel
theorem dL_finds_86 : decode cL_finds 86 = .ok (.if_icmp .lt 19, 3) := by decide +kernel
theorem dL_finds_89 : decode cL_finds 89 = .ok (.aload_n 0, 1) := by decide +kernel
theorem dL_finds_90 : decode cL_finds 90 = .ok (.iconst 0, 1) := by decide +kernel
theorem dL_finds_91 : decode cL_finds 91 = .ok (.iload_n 1, 1) := by decide +kernel
theorem dL_finds_92 : decode cL_finds 92 = .ok (.iload_n 2, 1) := by decide +kernel
theorem dL_finds_93 : decode cL_finds 93 = .ok (.iload_n 3, 1) := by decide +kernel
theorem dL_finds_94 : decode cL_finds 94 = .ok (.iload 4, 2) := by decide +kernel
theorem dL_finds_96 : decode cL_finds 96 = .ok (.iconst 2, 1) := by decide +kernel
theorem dL_finds_97 : decode cL_finds 97 = .ok (.invokevirtual 79, 3) := by decide +kernel
theorem dL_finds_100 : decode cL_finds 100 = .ok (.iload 7, 2) := by decide +kernel
theorem dL_finds_102 : decode cL_finds 102 = .ok (.if_icmp .ne 45, 3) := by decide +kernel
theorem dL_finds_105 : decode cL_finds 105 = .ok (.iload 9, 2) := by decide +kernel
theorem dL_finds_107 : decode cL_finds 107 = .ok (.iconst 4, 1) := by decide +kernel
theorem dL_finds_108 : decode cL_finds 108 = .ok (.if_icmp .lt 19, 3) := by decide +kernel
theorem dL_finds_111 : decode cL_finds 111 = .ok (.aload_n 0, 1) := by decide +kernel
theorem dL_finds_112 : decode cL_finds 112 = .ok (.iconst 0, 1) := by decide +kernel
theorem dL_finds_113 : decode cL_finds 113 = .ok (.iload_n 1, 1) := by decide +kernel
theorem dL_finds_114 : decode cL_finds 114 = .ok (.iload_n 2, 1) := by decide +kernel
theorem dL_finds_115 : decode cL_finds 115 = .ok (.iload_n 3, 1) := by decide +kernel
theorem dL_finds_116 : decode cL_finds 116 = .ok (.iload 4, 2) := by decide +kernel
theorem dL_finds_118 : decode cL_finds 118 = .ok (.iconst 3, 1) := by decide +kernel
theorem dL_finds_119 : decode cL_finds 119 = .ok (.invokevirtual 79, 3) := by decide +kernel
theorem dL_finds_122 : decode cL_finds 122 = .ok (.iload 8, 2) := by decide +kernel
theorem dL_finds_124 : decode cL_finds 124 = .ok (.if_icmp .ne 23, 3) := by decide +kernel
theorem dL_finds_127 : decode cL_finds 127 = .ok (.aload_n 0, 1) := by decide +kernel
theorem dL_finds_128 : decode cL_finds 128 = .ok (.iconst 0, 1) := by decide +kernel
theorem dL_finds_129 : decode cL_finds 129 = .ok (.iload_n 1, 1) := by decide +kernel
theorem dL_finds_130 : decode cL_finds 130 = .ok (.iload_n 2, 1) := by decide +kernel
theorem dL_finds_131 : decode cL_finds 131 = .ok (.iload_n 3, 1) := by decide +kernel
theorem dL_finds_132 : decode cL_finds 132 = .ok (.iload 4, 2) := by decide +kernel
theorem dL_finds_134 : decode cL_finds 134 = .ok (.iload 9, 2) := by decide +kernel
theorem dL_finds_136 : decode cL_finds 136 = .ok (.invokevirtual 79, 3) := by decide +kernel
theorem dL_finds_139 : decode cL_finds 139 = .ok (.iconst (-1), 1) := by decide +kernel
theorem dL_finds_140 : decode cL_finds 140 = .ok (.if_icmp .ne 7, 3) := by decide +kernel
theorem dL_finds_143 : decode cL_finds 143 = .ok (.iconst 1, 1) := by decide +kernel
theorem dL_finds_144 : decode cL_finds 144 = .ok (.goto 4, 3) := by decide +kernel
theorem dL_finds_147 : decode cL_finds 147 = .ok (.iconst 0, 1) := by decide +kernel
theorem dL_finds_148 : decode cL_finds 148 = .ok (.ireturn, 1) := by decide +kernel
end
section
theorem dL_act_0 : decode cL_act 0 = .ok (.iload_n 1, 1) := by decide +kernel
theorem dL_act_1 : decode cL_act 1 = .ok (.ifCond .ne 16, 3) := by decide +kernel
theorem dL_act_4 : decode cL_act 4 = .ok (.aload_n 0, 1) := by decide +kernel
theorem dL_act_5 : decode cL_act 5 = .ok (.iload_n 2, 1) := by decide +kernel
theorem dL_act_6 : decode cL_act 6 = .ok (.iload_n 3, 1) := by decide +kernel
theorem dL_act_7 : decode cL_act 7 = .ok (.iload 4, 2) := by decide +kernel
theorem dL_act_9 : decode cL_act 9 = .ok (.iload 5, 2) := by decide +kernel
theorem dL_act_11 : decode cL_act 11 = .ok (.invokevirtual 26, 3) := by decide +kernel
theorem dL_act_14 : decode cL_act 14 = .ok (.goto 275, 3) := by decide +kernel
theorem dL_act_17 : decode cL_act 17 = .ok (.iload_n 1, 1) := by decide +kernel
theorem dL_act_18 : decode cL_act 18 = .ok (.iconst 1, 1) := by decide +kernel
theorem dL_act_19 : decode cL_act 19 = .ok (.if_icmp .ne 16, 3) := by decide +kernel
theorem dL_act_22 : decode cL_act 22 = .ok (.aload_n 0, 1) := by decide +kernel
theorem dL_act_23 : decode cL_act 23 = .ok (.iload_n 2, 1) := by decide +kernel
theorem dL_act_24 : decode cL_act 24 = .ok (.iload_n 3, 1) := by decide +kernel
theorem dL_act_25 : decode cL_act 25 = .ok (.iload 4, 2) := by decide +kernel
theorem dL_act_27 : decode cL_act 27 = .ok (.iload 5, 2) := by decide +kernel
theorem dL_act_29 : decode cL_act 29 = .ok (.invokevirtual 30, 3) := by decide +kernel
theorem dL_act_32 : decode cL_act 32 = .ok (.goto 257, 3) := by decide +kernel
theorem dL_act_35 : decode cL_act 35 = .ok (.iload_n 1, 1) := by decide +kernel
theorem dL_act_36 : decode cL_act 36 = .ok (.iconst 2, 1) := by decide +kernel
theorem dL_act_37 : decode cL_act 37 = .ok (.if_icmp .ne 16, 3) := by decide +kernel
theorem dL_act_40 : decode cL_act 40 = .ok (.aload_n 0, 1) := by decide +kernel
theorem dL_act_41 : decode cL_act 41 = .ok (.iload_n 2, 1) := by decide +kernel
theorem dL_act_42 : decode cL_act 42 = .ok (.iload_n 3, 1) := by decide +kernel
theorem dL_act_43 : decode cL_act 43 = .ok (.iload 4, 2) := by decide +kernel
theorem dL_act_45 : decode cL_act 45 = .ok (.iload 5, 2) := by decide +kernel
theorem dL_act_47 : decode cL_act 47 = .ok (.invokevirtual 33, 3) := by decide +kernel
theorem dL_act_50 : decode cL_act 50 = .ok (.goto 239, 3) := by decide +kernel
theorem dL_act_53 : decode cL_act 53 = .ok (.iload_n 1, 1) := by decide +kernel
theorem dL_act_54 : decode cL_act 54 = .ok (.iconst 3, 1) := by decide +kernel
theorem dL_act_55 : decode cL_act 55 = .ok (.if_icmp .ne 12, 3) := by decide +kernel
theorem dL_act_58 : decode cL_act 58 = .ok (.aload_n 0, 1) := by decide +kernel
theorem dL_act_59 : decode cL_act 59 = .ok (.iload_n 2, 1) := by decide +kernel
theorem dL_act_60 : decode cL_act 60 = .ok (.iload_n 3, 1) := by decide +kernel
theorem dL_act_61 : decode cL_act 61 = .ok (.invokevirtual 36, 3) := by decide +kernel
theorem dL_act_64 : decode cL_act 64 = .ok (.goto 225, 3) := by decide +kernel
theorem dL_act_67 : decode cL_act 67 = .ok (.iload_n 1, 1) := by decide +kernel
theorem dL_act_68 : decode cL_act 68 = .ok (.iconst 4, 1) := by decide +kernel
theorem dL_act_69 : decode cL_act 69 = .ok (.if_icmp .ne 20, 3) := by decide +kernel
theorem dL_act_72 : decode cL_act 72 = .ok (.aload_n 0, 1) := by decide +kernel
theorem dL_act_73 : decode cL_act 73 = .ok (.iload_n 2, 1) := by decide +kernel
theorem dL_act_74 : decode cL_act 74 = .ok (.iload_n 3, 1) := by decide +kernel
theorem dL_act_75 : decode cL_act 75 = .ok (.invokevirtual 40, 3) := by decide +kernel
theorem dL_act_78 : decode cL_act 78 = .ok (.ifCond .eq 7, 3) := by decide +kernel
theorem dL_act_81 : decode cL_act 81 = .ok (.iconst 1, 1) := by decide +kernel
theorem dL_act_82 : decode cL_act 82 = .ok (.goto 207, 3) := by decide +kernel
theorem dL_act_85 : decode cL_act 85 = .ok (.iconst 0, 1) := by decide +kernel
theorem dL_act_86 : decode cL_act 86 = .ok (.goto 203, 3) := by decide +kernel
theorem dL_act_89 : decode cL_act 89 = .ok (.iload_n 1, 1) := by decide +kernel
theorem dL_act_90 : decode cL_act 90 = .ok (.iconst 5, 1) := by decide +kernel
theorem dL_act_91 : decode cL_act 91 = .ok (.if_icmp .ne 11, 3) := by decide +kernel
theorem dL_act_94 : decode cL_act 94 = .ok (.aload_n 0, 1) := by decide +kernel
theorem dL_act_95 : decode cL_act 95 = .ok (.iload_n 2, 1) := by decide +kernel
theorem dL_act_96 : decode cL_act 96 = .ok (.invokevirtual 44, 3) := by decide +kernel
theorem dL_act_99 : decode cL_act 99 = .ok (.goto 190, 3) := by decide +kernel
theorem dL_act_102 : decode cL_act 102 = .ok (.iload_n 1, 1) := by decide +kernel
theorem dL_act_103 : decode cL_act 103 = .ok (.bipush 6, 2) := by decide +kernel
theorem dL_act_105 : decode cL_act 105 = .ok (.if_icmp .ne 11, 3) := by decide +kernel
theorem dL_act_108 : decode cL_act 108 = .ok (.aload_n 0, 1) := by decide +kernel
theorem dL_act_109 : decode cL_act 109 = .ok (.iload_n 2, 1) := by decide +kernel
theorem dL_act_110 : decode cL_act 110 = .ok (.invokevirtual 48, 3) := by decide +kernel
theorem dL_act_113 : decode cL_act 113 = .ok (.goto 176, 3) := by decide +kernel
theorem dL_act_116 : decode cL_act 116 = .ok (.iload_n 1, 1) := by decide +kernel
theorem dL_act_117 : decode cL_act 117 = .ok (.bipush 7, 2) := by decide +kernel
theorem dL_act_119 : decode cL_act 119 = .ok (.if_icmp .ne 20, 3) := by decide +kernel
theorem dL_act_122 : decode cL_act 122 = .ok (.aload_n 0, 1) := by decide +kernel
theorem dL_act_123 : decode cL_act 123 = .ok (.iload_n 2, 1) := by decide +kernel
theorem dL_act_124 : decode cL_act 124 = .ok (.iload_n 3, 1) := by decide +kernel
theorem dL_act_125 : decode cL_act 125 = .ok (.invokevirtual 51, 3) := by decide +kernel
theorem dL_act_128 : decode cL_act 128 = .ok (.ifCond .eq 7, 3) := by decide +kernel
theorem dL_act_131 : decode cL_act 131 = .ok (.iconst 1, 1) := by decide +kernel
theorem dL_act_132 : decode cL_act 132 = .ok (.goto 157, 3) := by decide +kernel
theorem dL_act_135 : decode cL_act 135 = .ok (.iconst 0, 1) := by decide +kernel
theorem dL_act_136 : decode cL_act 136 = .ok (.goto 153, 3) := by decide +kernel
theorem dL_act_139 : decode cL_act 139 = .ok (.iload_n 1, 1) := by decide +kernel
theorem dL_act_140 : decode cL_act 140 = .ok (.bipush 8, 2) := by decide +kernel
theorem dL_act_142 : decode cL_act 142 = .ok (.if_icmp .ne 12, 3) := by decide +kernel
theorem dL_act_145 : decode cL_act 145 = .ok (.aload_n 0, 1) := by decide +kernel
theorem dL_act_146 : decode cL_act 146 = .ok (.iload_n 2, 1) := by decide +kernel
theorem dL_act_147 : decode cL_act 147 = .ok (.iload_n 3, 1) := by decide +kernel
theorem dL_act_148 : decode cL_act 148 = .ok (.invokevirtual 54, 3) := by decide +kernel
theorem dL_act_151 : decode cL_act 151 = .ok (.goto 138, 3) := by decide +kernel
theorem dL_act_154 : decode cL_act 154 = .ok (.iload_n 1, 1) := by decide +kernel
theorem dL_act_155 : decode cL_act 155 = .ok (.bipush 9, 2) := by decide +kernel
theorem dL_act_157 : decode cL_act 157 = .ok (.if_icmp .ne 12, 3) := by decide +kernel
theorem dL_act_160 : decode cL_act 160 = .ok (.aload_n 0, 1) := by decide +kernel
theorem dL_act_161 : decode cL_act 161 = .ok (.iload_n 2, 1) := by decide +kernel
theorem dL_act_162 : decode cL_act 162 = .ok (.iload_n 3, 1) := by decide +kernel
theorem dL_act_163 : decode cL_act 163 = .ok (.invokevirtual 57, 3) := by decide +kernel
theorem dL_act_166 : decode cL_act 166 = .ok (.goto 123, 3) := by decide +kernel
theorem dL_act_169 : decode cL_act 169 = .ok (.iload_n 1, 1) := by decide +kernel
theorem dL_act_170 : decode cL_act 170 = .ok (.bipush 10, 2) := by decide +kernel
theorem dL_act_172 : decode cL_act 172 = .ok (.if_icmp .ne 14, 3) := by decide +kernel
theorem dL_act_175 : decode cL_act 175 = .ok (.aload_n 0, 1) := by decide +kernel
theorem dL_act_176 : decode cL_act 176 = .ok (.iload_n 2, 1) := by decide +kernel
theorem dL_act_177 : decode cL_act 177 = .ok (.iload_n 3, 1) := by decide +kernel
theorem dL_act_178 : decode cL_act 178 = .ok (.iload 4, 2) := by decide +kernel
theorem dL_act_180 : decode cL_act 180 = .ok (.invokevirtual 60, 3) := by decide +kernel
theorem dL_act_183 : decode cL_act 183 = .ok (.goto 106, 3) := by decide +kernel
theorem dL_act_186 : decode cL_act 186 = .ok (.iload_n 1, 1) := by decide +kernel
theorem dL_act_187 : decode cL_act 187 = .ok (.bipush 11, 2) := by decide +kernel
theorem dL_act_189 : decode cL_act 189 = .ok (.if_icmp .ne 20, 3) := by decide +kernel
theorem dL_act_192 : decode cL_act 192 = .ok (.aload_n 0, 1) := by decide +kernel
theorem dL_act_193 : decode cL_act 193 = .ok (.iload_n 2, 1) := by decide +kernel
theorem dL_act_194 : decode cL_act 194 = .ok (.iload_n 3, 1) := by decide +kernel
theorem dL_act_195 : decode cL_act 195 = .ok (.invokevirtual 64, 3) := by decide +kernel
theorem dL_act_198 : decode cL_act 198 = .ok (.ifCond .eq 7, 3) := by decide +kernel
theorem dL_act_201 : decode cL_act 201 = .ok (.iconst 1, 1) := by decide +kernel
theorem dL_act_202 : decode cL_act 202 = .ok (.goto 87, 3) := by decide +kernel
theorem dL_act_205 : decode cL_act 205 = .ok (.iconst 0, 1) := by decide +kernel
theorem dL_act_206 : decode cL_act 206 = .ok (.goto 83, 3) := by decide +kernel
theorem dL_act_209 : decode cL_act 209 = .ok (.iload_n 1, 1) := by decide +kernel
theorem dL_act_210 : decode cL_act 210 = .ok (.bipush 12, 2) := by decide +kernel
theorem dL_act_212 : decode cL_act 212 = .ok (.if_icmp .ne 14, 3) := by decide +kernel
theorem dL_act_215 : decode cL_act 215 = .ok (.aload_n 0, 1) := by decide +kernel
theorem dL_act_216 : decode cL_act 216 = .ok (.iload_n 2, 1) := by decide +kernel
theorem dL_act_217 : decode cL_act 217 = .ok (.iload_n 3, 1) := by decide +kernel
theorem dL_act_218 : decode cL_act 218 = .ok (.iload 4, 2) := by decide +kernel
theorem dL_act_220 : decode cL_act 220 = .ok (.invokevirtual 67, 3) := by decide +kernel
theorem dL_act_223 : decode cL_act 223 = .ok (.goto 66, 3) := by decide +kernel
theorem dL_act_226 : decode cL_act 226 = .ok (.iload_n 1, 1) := by decide +kernel
theorem dL_act_227 : decode cL_act 227 = .ok (.bipush 13, 2) := by decide +kernel
theorem dL_act_229 : decode cL_act 229 = .ok (.if_icmp .ne 14, 3) := by decide +kernel
theorem dL_act_232 : decode cL_act 232 = .ok (.aload_n 0, 1) := by decide +kernel
theorem dL_act_233 : decode cL_act 233 = .ok (.iload_n 2, 1) := by decide +kernel
theorem dL_act_234 : decode cL_act 234 = .ok (.iload_n 3, 1) := by decide +kernel
theorem dL_act_235 : decode cL_act 235 = .ok (.iload 4, 2) := by decide +kernel
theorem dL_act_237 : decode cL_act 237 = .ok (.invokevirtual 70, 3) := by decide +kernel
theorem dL_act_240 : decode cL_act 240 = .ok (.goto 49, 3) := by decide +kernel
theorem dL_act_243 : decode cL_act 243 = .ok (.iload_n 1, 1) := by decide +kernel
theorem dL_act_244 : decode cL_act 244 = .ok (.bipush 14, 2) := by decide +kernel
theorem dL_act_246 : decode cL_act 246 = .ok (.if_icmp .ne 14, 3) := by decide +kernel
theorem dL_act_249 : decode cL_act 249 = .ok (.aload_n 0, 1) := by decide +kernel
theorem dL_act_250 : decode cL_act 250 = .ok (.iload_n 2, 1) := by decide +kernel
theorem dL_act_251 : decode cL_act 251 = .ok (.iload_n 3, 1) := by decide +kernel
theorem dL_act_252 : decode cL_act 252 = .ok (.iload 4, 2) := by decide +kernel
theorem dL_act_254 : decode cL_act 254 = .ok (.invokevirtual 73, 3) := by decide +kernel
theorem dL_act_257 : decode cL_act 257 = .ok (.goto 32, 3) := by decide +kernel
theorem dL_act_260 : decode cL_act 260 = .ok (.iload_n 1, 1) := by decide +kernel
theorem dL_act_261 : decode cL_act 261 = .ok (.bipush 15, 2) := by decide +kernel
theorem dL_act_263 : decode cL_act 263 = .ok (.if_icmp .ne 14, 3) := by decide +kernel
theorem dL_act_266 : decode cL_act 266 = .ok (.aload_n 0, 1) := by decide +kernel
theorem dL_act_267 : decode cL_act 267 = .ok (.iload_n 2, 1) := by decide +kernel
theorem dL_act_268 : decode cL_act 268 = .ok (.iload_n 3, 1) := by decide +kernel
theorem dL_act_269 : decode cL_act 269 = .ok (.iload 4, 2) := by decide +kernel
theorem dL_act_271 : decode cL_act 271 = .ok (.invokevirtual 76, 3) := by decide +kernel
theorem dL_act_274 : decode cL_act 274 = .ok (.goto 15, 3) := by decide +kernel
theorem dL_act_277 : decode cL_act 277 = .ok (.aload_n 0, 1) := by decide +kernel
theorem dL_act_278 : decode cL_act 278 = .ok (.iload_n 2, 1) := by decide +kernel
theorem dL_act_279 : decode cL_act 279 = .ok (.iconst 0, 1) := by decide +kernel
theorem dL_act_280 : decode cL_act 280 = .ok (.iload_n 3, 1) := by decide +kernel
theorem dL_act_281 : decode cL_act 281 = .ok (.iload 4, 2) := by decide +kernel
theorem dL_act_283 : decode cL_act 283 = .ok (.iload 5, 2) := by decide +kernel
theorem dL_act_285 : decode cL_act 285 = .ok (.iconst 0, 1) := by decide +kernel
theorem dL_act_286 : decode cL_act 286 = .ok (.invokevirtual 79, 3) := by decide +kernel
theorem dL_act_289 : decode cL_act 289 = .ok (.ireturn, 1) := by decide +kernel
theorem dL_act_290 : decode cL_act 290 = .ok (.astore 6, 2) := by decide +kernel
theorem dL_act_292 : decode cL_act 292 = .ok (.bipush (-71), 2) := by decide +kernel
theorem dL_act_294 : decode cL_act 294 = .ok (.ireturn, 1) := by decide +kernel
theorem dL_act_295 : decode cL_act 295 = .ok (.astore 6, 2) := by decide +kernel
theorem dL_act_297 : decode cL_act 297 = .ok (.bipush (-72), 2) := by decide +kernel
theorem dL_act_299 : decode cL_act 299 = .ok (.ireturn, 1) := by decide +kernel
theorem dL_act_300 : decode cL_act 300 = .ok (.astore 6, 2) := by decide +kernel
theorem dL_act_302 : decode cL_act 302 = .ok (.bipush (-73), 2) := by decide +kernel
theorem dL_act_304 : decode cL_act 304 = .ok (.ireturn, 1) := by decide +kernel
end
section
theorem dL_law_0 : decode cL_law 0 = .ok (.invokestatic 124, 3) := by decide +kernel
theorem dL_law_3 : decode cL_law 3 = .ok (.ifCond .eq 9, 3) := by decide +kernel
theorem dL_law_6 : decode cL_law 6 = .ok (.invokestatic 127, 3) := by decide +kernel
theorem dL_law_9 : decode cL_law 9 = .ok (.ifCond .ne 5, 3) := by decide +kernel
theorem dL_law_12 : decode cL_law 12 = .ok (.iconst 0, 1) := by decide +kernel
theorem dL_law_13 : decode cL_law 13 = .ok (.ireturn, 1) := by decide +kernel
theorem dL_law_14 : decode cL_law 14 = .ok (.new 8, 3) := by decide +kernel
theorem dL_law_17 : decode cL_law 17 = .ok (.dup, 1) := by decide +kernel
theorem dL_law_18 : decode cL_law 18 = .ok (.invokespecial 111, 3) := by decide +kernel
theorem dL_law_21 : decode cL_law 21 = .ok (.astore_n 1, 1) := by decide +kernel
theorem dL_law_22 : decode cL_law 22 = .ok (.iconst 0, 1) := by decide +kernel
theorem dL_law_23 : decode cL_law 23 = .ok (.istore_n 2, 1) := by decide +kernel
theorem dL_law_24 : decode cL_law 24 = .ok (.iload_n 2, 1) := by decide +kernel
theorem dL_law_25 : decode cL_law 25 = .ok (.bipush 40, 2) := by decide +kernel
theorem dL_law_27 : decode cL_law 27 = .ok (.if_icmp .ge 208, 3) := by decide +kernel
theorem dL_law_30 : decode cL_law 30 = .ok (.aload_n 0, 1) := by decide +kernel
theorem dL_law_31 : decode cL_law 31 = .ok (.arraylength, 1) := by decide +kernel
theorem dL_law_32 : decode cL_law 32 = .ok (.ifCond .ne 10, 3) := by decide +kernel
theorem dL_law_35 : decode cL_law 35 = .ok (.bipush 13, 2) := by decide +kernel
theorem dL_law_37 : decode cL_law 37 = .ok (.iload_n 2, 1) := by decide +kernel
theorem dL_law_38 : decode cL_law 38 = .ok (.imul, 1) := by decide +kernel
theorem dL_law_39 : decode cL_law 39 = .ok (.goto 12, 3) := by decide +kernel
theorem dL_law_42 : decode cL_law 42 = .ok (.aload_n 0, 1) := by decide +kernel
theorem dL_law_43 : decode cL_law 43 = .ok (.iload_n 2, 1) := by decide +kernel
theorem dL_law_44 : decode cL_law 44 = .ok (.aload_n 0, 1) := by decide +kernel
theorem dL_law_45 : decode cL_law 45 = .ok (.arraylength, 1) := by decide +kernel
theorem dL_law_46 : decode cL_law 46 = .ok (.irem, 1) := by decide +kernel
theorem dL_law_47 : decode cL_law 47 = .ok (.iaload, 1) := by decide +kernel
theorem dL_law_48 : decode cL_law 48 = .ok (.bipush 8, 2) := by decide +kernel
theorem dL_law_50 : decode cL_law 50 = .ok (.iushr, 1) := by decide +kernel
theorem dL_law_51 : decode cL_law 51 = .ok (.istore_n 3, 1) := by decide +kernel
theorem dL_law_52 : decode cL_law 52 = .ok (.iload_n 3, 1) := by decide +kernel
theorem dL_law_53 : decode cL_law 53 = .ok (.iconst 2, 1) := by decide +kernel
theorem dL_law_54 : decode cL_law 54 = .ok (.irem, 1) := by decide +kernel
theorem dL_law_55 : decode cL_law 55 = .ok (.istore 4, 2) := by decide +kernel
theorem dL_law_57 : decode cL_law 57 = .ok (.iconst 0, 1) := by decide +kernel
theorem dL_law_58 : decode cL_law 58 = .ok (.istore 5, 2) := by decide +kernel
theorem dL_law_60 : decode cL_law 60 = .ok (.aload_n 1, 1) := by decide +kernel
theorem dL_law_61 : decode cL_law 61 = .ok (.iload 4, 2) := by decide +kernel
theorem dL_law_63 : decode cL_law 63 = .ok (.iconst 0, 1) := by decide +kernel
theorem dL_law_64 : decode cL_law 64 = .ok (.iload 5, 2) := by decide +kernel
theorem dL_law_66 : decode cL_law 66 = .ok (.invokevirtual 67, 3) := by decide +kernel
theorem dL_law_69 : decode cL_law 69 = .ok (.ifCond .lt 16, 3) := by decide +kernel
theorem dL_law_72 : decode cL_law 72 = .ok (.iload 5, 2) := by decide +kernel
theorem dL_law_74 : decode cL_law 74 = .ok (.bipush 48, 2) := by decide +kernel
theorem dL_law_76 : decode cL_law 76 = .ok (.if_icmp .ge 9, 3) := by decide +kernel
theorem dL_law_79 : decode cL_law 79 = .ok (.iinc 5 1, 3) := by decide +kernel
theorem dL_law_82 : decode cL_law 82 = .ok (.goto (-22), 3) := by decide +kernel
theorem dL_law_85 : decode cL_law 85 = .ok (.iload 5, 2) := by decide +kernel
theorem dL_law_87 : decode cL_law 87 = .ok (.bipush 48, 2) := by decide +kernel
theorem dL_law_89 : decode cL_law 89 = .ok (.if_icmp .ge 24, 3) := by decide +kernel
theorem dL_law_92 : decode cL_law 92 = .ok (.iload_n 3, 1) := by decide +kernel
theorem dL_law_93 : decode cL_law 93 = .ok (.iconst 3, 1) := by decide +kernel
theorem dL_law_94 : decode cL_law 94 = .ok (.irem, 1) := by decide +kernel
theorem dL_law_95 : decode cL_law 95 = .ok (.ifCond .le 18, 3) := by decide +kernel
theorem dL_law_98 : decode cL_law 98 = .ok (.aload_n 1, 1) := by decide +kernel
theorem dL_law_99 : decode cL_law 99 = .ok (.iload 4, 2) := by decide +kernel
theorem dL_law_101 : decode cL_law 101 = .ok (.iconst 0, 1) := by decide +kernel
theorem dL_law_102 : decode cL_law 102 = .ok (.iload 5, 2) := by decide +kernel
theorem dL_law_104 : decode cL_law 104 = .ok (.iload_n 3, 1) := by decide +kernel
theorem dL_law_105 : decode cL_law 105 = .ok (.iconst 3, 1) := by decide +kernel
theorem dL_law_106 : decode cL_law 106 = .ok (.irem, 1) := by decide +kernel
theorem dL_law_107 : decode cL_law 107 = .ok (.invokevirtual 26, 3) := by decide +kernel
theorem dL_law_110 : decode cL_law 110 = .ok (.goto 21, 3) := by decide +kernel
theorem dL_law_113 : decode cL_law 113 = .ok (.aload_n 1, 1) := by decide +kernel
theorem dL_law_114 : decode cL_law 114 = .ok (.iload 4, 2) := by decide +kernel
theorem dL_law_116 : decode cL_law 116 = .ok (.iload_n 3, 1) := by decide +kernel
theorem dL_law_117 : decode cL_law 117 = .ok (.iconst 2, 1) := by decide +kernel
theorem dL_law_118 : decode cL_law 118 = .ok (.idiv, 1) := by decide +kernel
theorem dL_law_119 : decode cL_law 119 = .ok (.iconst 2, 1) := by decide +kernel
theorem dL_law_120 : decode cL_law 120 = .ok (.irem, 1) := by decide +kernel
theorem dL_law_121 : decode cL_law 121 = .ok (.iload_n 3, 1) := by decide +kernel
theorem dL_law_122 : decode cL_law 122 = .ok (.iconst 4, 1) := by decide +kernel
theorem dL_law_123 : decode cL_law 123 = .ok (.irem, 1) := by decide +kernel
theorem dL_law_124 : decode cL_law 124 = .ok (.iload_n 3, 1) := by decide +kernel
theorem dL_law_125 : decode cL_law 125 = .ok (.bipush 10, 2) := by decide +kernel
theorem dL_law_127 : decode cL_law 127 = .ok (.irem, 1) := by decide +kernel
theorem dL_law_128 : decode cL_law 128 = .ok (.invokevirtual 30, 3) := by decide +kernel
theorem dL_law_131 : decode cL_law 131 = .ok (.istore 6, 2) := by decide +kernel
theorem dL_law_133 : decode cL_law 133 = .ok (.iload 6, 2) := by decide +kernel
theorem dL_law_135 : decode cL_law 135 = .ok (.iconst (-1), 1) := by decide +kernel
theorem dL_law_136 : decode cL_law 136 = .ok (.if_icmp .lt 75, 3) := by decide +kernel
theorem dL_law_139 : decode cL_law 139 = .ok (.aload_n 1, 1) := by decide +kernel
theorem dL_law_140 : decode cL_law 140 = .ok (.invokevirtual 83, 3) := by decide +kernel
theorem dL_law_143 : decode cL_law 143 = .ok (.iload_n 2, 1) := by decide +kernel
theorem dL_law_144 : decode cL_law 144 = .ok (.iconst 1, 1) := by decide +kernel
theorem dL_law_145 : decode cL_law 145 = .ok (.iadd, 1) := by decide +kernel
theorem dL_law_146 : decode cL_law 146 = .ok (.if_icmp .ne 65, 3) := by decide +kernel
theorem dL_law_149 : decode cL_law 149 = .ok (.aload_n 1, 1) := by decide +kernel
theorem dL_law_150 : decode cL_law 150 = .ok (.iload_n 2, 1) := by decide +kernel
theorem dL_law_151 : decode cL_law 151 = .ok (.invokevirtual 44, 3) := by decide +kernel
theorem dL_law_154 : decode cL_law 154 = .ok (.iconst 1, 1) := by decide +kernel
theorem dL_law_155 : decode cL_law 155 = .ok (.if_icmp .lt 56, 3) := by decide +kernel
theorem dL_law_158 : decode cL_law 158 = .ok (.iload_n 3, 1) := by decide +kernel
theorem dL_law_159 : decode cL_law 159 = .ok (.iconst 5, 1) := by decide +kernel
theorem dL_law_160 : decode cL_law 160 = .ok (.irem, 1) := by decide +kernel
theorem dL_law_161 : decode cL_law 161 = .ok (.ifCond .ne 13, 3) := by decide +kernel
theorem dL_law_164 : decode cL_law 164 = .ok (.aload_n 1, 1) := by decide +kernel
theorem dL_law_165 : decode cL_law 165 = .ok (.iload_n 2, 1) := by decide +kernel
theorem dL_law_166 : decode cL_law 166 = .ok (.iload 4, 2) := by decide +kernel
theorem dL_law_168 : decode cL_law 168 = .ok (.invokevirtual 40, 3) := by decide +kernel
theorem dL_law_171 : decode cL_law 171 = .ok (.ifCond .ne 40, 3) := by decide +kernel
theorem dL_law_174 : decode cL_law 174 = .ok (.iload_n 2, 1) := by decide +kernel
theorem dL_law_175 : decode cL_law 175 = .ok (.bipush 8, 2) := by decide +kernel
theorem dL_law_177 : decode cL_law 177 = .ok (.irem, 1) := by decide +kernel
theorem dL_law_178 : decode cL_law 178 = .ok (.ifCond .ne 35, 3) := by decide +kernel
theorem dL_law_181 : decode cL_law 181 = .ok (.aload_n 1, 1) := by decide +kernel
theorem dL_law_182 : decode cL_law 182 = .ok (.iconst 0, 1) := by decide +kernel
theorem dL_law_183 : decode cL_law 183 = .ok (.iload_n 2, 1) := by decide +kernel
theorem dL_law_184 : decode cL_law 184 = .ok (.iconst 2, 1) := by decide +kernel
theorem dL_law_185 : decode cL_law 185 = .ok (.iadd, 1) := by decide +kernel
theorem dL_law_186 : decode cL_law 186 = .ok (.iload 5, 2) := by decide +kernel
theorem dL_law_188 : decode cL_law 188 = .ok (.bipush 48, 2) := by decide +kernel
theorem dL_law_190 : decode cL_law 190 = .ok (.if_icmp .ge 13, 3) := by decide +kernel
theorem dL_law_193 : decode cL_law 193 = .ok (.iload_n 3, 1) := by decide +kernel
theorem dL_law_194 : decode cL_law 194 = .ok (.iconst 3, 1) := by decide +kernel
theorem dL_law_195 : decode cL_law 195 = .ok (.irem, 1) := by decide +kernel
theorem dL_law_196 : decode cL_law 196 = .ok (.ifCond .le 7, 3) := by decide +kernel
theorem dL_law_199 : decode cL_law 199 = .ok (.iconst 1, 1) := by decide +kernel
theorem dL_law_200 : decode cL_law 200 = .ok (.goto 4, 3) := by decide +kernel
theorem dL_law_203 : decode cL_law 203 = .ok (.iconst 0, 1) := by decide +kernel
theorem dL_law_204 : decode cL_law 204 = .ok (.iadd, 1) := by decide +kernel
theorem dL_law_205 : decode cL_law 205 = .ok (.invokestatic 116, 3) := by decide +kernel
theorem dL_law_208 : decode cL_law 208 = .ok (.ifCond .ne 5, 3) := by decide +kernel
theorem dL_law_211 : decode cL_law 211 = .ok (.iconst 0, 1) := by decide +kernel
theorem dL_law_212 : decode cL_law 212 = .ok (.ireturn, 1) := by decide +kernel
theorem dL_law_213 : decode cL_law 213 = .ok (.iload_n 3, 1) := by decide +kernel
theorem dL_law_214 : decode cL_law 214 = .ok (.iconst 4, 1) := by decide +kernel
theorem dL_law_215 : decode cL_law 215 = .ok (.irem, 1) := by decide +kernel
theorem dL_law_216 : decode cL_law 216 = .ok (.ifCond .le 13, 3) := by decide +kernel
theorem dL_law_219 : decode cL_law 219 = .ok (.aload_n 1, 1) := by decide +kernel
theorem dL_law_220 : decode cL_law 220 = .ok (.iload_n 2, 1) := by decide +kernel
theorem dL_law_221 : decode cL_law 221 = .ok (.iconst 1, 1) := by decide +kernel
theorem dL_law_222 : decode cL_law 222 = .ok (.iload 4, 2) := by decide +kernel
theorem dL_law_224 : decode cL_law 224 = .ok (.isub, 1) := by decide +kernel
theorem dL_law_225 : decode cL_law 225 = .ok (.invokevirtual 40, 3) := by decide +kernel
theorem dL_law_228 : decode cL_law 228 = .ok (.pop, 1) := by decide +kernel
theorem dL_law_229 : decode cL_law 229 = .ok (.iinc 2 1, 3) := by decide +kernel
theorem dL_law_232 : decode cL_law 232 = .ok (.goto (-208), 3) := by decide +kernel
theorem dL_law_235 : decode cL_law 235 = .ok (.aload_n 1, 1) := by decide +kernel
theorem dL_law_236 : decode cL_law 236 = .ok (.iconst 0, 1) := by decide +kernel
theorem dL_law_237 : decode cL_law 237 = .ok (.iconst 0, 1) := by decide +kernel
theorem dL_law_238 : decode cL_law 238 = .ok (.iconst 0, 1) := by decide +kernel
theorem dL_law_239 : decode cL_law 239 = .ok (.bipush 48, 2) := by decide +kernel
theorem dL_law_241 : decode cL_law 241 = .ok (.iconst 0, 1) := by decide +kernel
theorem dL_law_242 : decode cL_law 242 = .ok (.invokestatic 98, 3) := by decide +kernel
theorem dL_law_245 : decode cL_law 245 = .ok (.bipush (-73), 2) := by decide +kernel
theorem dL_law_247 : decode cL_law 247 = .ok (.if_icmp .ne 21, 3) := by decide +kernel
theorem dL_law_250 : decode cL_law 250 = .ok (.aload_n 1, 1) := by decide +kernel
theorem dL_law_251 : decode cL_law 251 = .ok (.iconst 1, 1) := by decide +kernel
theorem dL_law_252 : decode cL_law 252 = .ok (.iconst 0, 1) := by decide +kernel
theorem dL_law_253 : decode cL_law 253 = .ok (.iconst 0, 1) := by decide +kernel
theorem dL_law_254 : decode cL_law 254 = .ok (.iconst 0, 1) := by decide +kernel
theorem dL_law_255 : decode cL_law 255 = .ok (.iconst 0, 1) := by decide +kernel
theorem dL_law_256 : decode cL_law 256 = .ok (.invokestatic 98, 3) := by decide +kernel
theorem dL_law_259 : decode cL_law 259 = .ok (.bipush (-73), 2) := by decide +kernel
theorem dL_law_261 : decode cL_law 261 = .ok (.if_icmp .ne 7, 3) := by decide +kernel
theorem dL_law_264 : decode cL_law 264 = .ok (.iconst 1, 1) := by decide +kernel
theorem dL_law_265 : decode cL_law 265 = .ok (.goto 4, 3) := by decide +kernel
theorem dL_law_268 : decode cL_law 268 = .ok (.iconst 0, 1) := by decide +kernel
theorem dL_law_269 : decode cL_law 269 = .ok (.ireturn, 1) := by decide +kernel
end
section
theorem dL_masters_0 : decode cL_masters 0 = .ok (.new 8, 3) := by decide +kernel
theorem dL_masters_3 : decode cL_masters 3 = .ok (.dup, 1) := by decide +kernel
theorem dL_masters_4 : decode cL_masters 4 = .ok (.invokespecial 111, 3) := by decide +kernel
theorem dL_masters_7 : decode cL_masters 7 = .ok (.astore_n 0, 1) := by decide +kernel
theorem dL_masters_8 : decode cL_masters 8 = .ok (.aload_n 0, 1) := by decide +kernel
theorem dL_masters_9 : decode cL_masters 9 = .ok (.invokevirtual 83, 3) := by decide +kernel
theorem dL_masters_12 : decode cL_masters 12 = .ok (.ifCond .ne 270, 3) := by decide +kernel
theorem dL_masters_15 : decode cL_masters 15 = .ok (.aload_n 0, 1) := by decide +kernel
theorem dL_masters_16 : decode cL_masters 16 = .ok (.iconst 1, 1) := by decide +kernel
theorem dL_masters_17 : decode cL_masters 17 = .ok (.invokevirtual 48, 3) := by decide +kernel
theorem dL_masters_20 : decode cL_masters 20 = .ok (.iconst 2, 1) := by decide +kernel
theorem dL_masters_21 : decode cL_masters 21 = .ok (.if_icmp .ne 261, 3) := by decide +kernel
theorem dL_masters_24 : decode cL_masters 24 = .ok (.aload_n 0, 1) := by decide +kernel
theorem dL_masters_25 : decode cL_masters 25 = .ok (.invokevirtual 87, 3) := by decide +kernel
theorem dL_masters_28 : decode cL_masters 28 = .ok (.ifCond .eq 254, 3) := by decide +kernel
theorem dL_masters_31 : decode cL_masters 31 = .ok (.aload_n 0, 1) := by decide +kernel
theorem dL_masters_32 : decode cL_masters 32 = .ok (.iconst 0, 1) := by decide +kernel
theorem dL_masters_33 : decode cL_masters 33 = .ok (.iconst 0, 1) := by decide +kernel
theorem dL_masters_34 : decode cL_masters 34 = .ok (.iconst (-1), 1) := by decide +kernel
theorem dL_masters_35 : decode cL_masters 35 = .ok (.iconst (-1), 1) := by decide +kernel
theorem dL_masters_36 : decode cL_masters 36 = .ok (.invokestatic 112, 3) := by decide +kernel
theorem dL_masters_39 : decode cL_masters 39 = .ok (.ifCond .eq 243, 3) := by decide +kernel
theorem dL_masters_42 : decode cL_masters 42 = .ok (.aload_n 0, 1) := by decide +kernel
theorem dL_masters_43 : decode cL_masters 43 = .ok (.iconst 1, 1) := by decide +kernel
theorem dL_masters_44 : decode cL_masters 44 = .ok (.iconst 1, 1) := by decide +kernel
theorem dL_masters_45 : decode cL_masters 45 = .ok (.iconst 0, 1) := by decide +kernel
theorem dL_masters_46 : decode cL_masters 46 = .ok (.bipush 99, 2) := by decide +kernel
theorem dL_masters_48 : decode cL_masters 48 = .ok (.invokestatic 112, 3) := by decide +kernel
theorem dL_masters_51 : decode cL_masters 51 = .ok (.ifCond .eq 231, 3) := by decide +kernel
theorem dL_masters_54 : decode cL_masters 54 = .ok (.aload_n 0, 1) := by decide +kernel
theorem dL_masters_55 : decode cL_masters 55 = .ok (.iconst 0, 1) := by decide +kernel
theorem dL_masters_56 : decode cL_masters 56 = .ok (.iconst 2, 1) := by decide +kernel
theorem dL_masters_57 : decode cL_masters 57 = .ok (.invokevirtual 51, 3) := by decide +kernel
theorem dL_masters_60 : decode cL_masters 60 = .ok (.ifCond .ne 222, 3) := by decide +kernel
theorem dL_masters_63 : decode cL_masters 63 = .ok (.aload_n 0, 1) := by decide +kernel
theorem dL_masters_64 : decode cL_masters 64 = .ok (.iconst 0, 1) := by decide +kernel
theorem dL_masters_65 : decode cL_masters 65 = .ok (.iconst 0, 1) := by decide +kernel
theorem dL_masters_66 : decode cL_masters 66 = .ok (.bipush 49, 2) := by decide +kernel
theorem dL_masters_68 : decode cL_masters 68 = .ok (.invokevirtual 67, 3) := by decide +kernel
theorem dL_masters_71 : decode cL_masters 71 = .ok (.iconst 1, 1) := by decide +kernel
theorem dL_masters_72 : decode cL_masters 72 = .ok (.if_icmp .ne 210, 3) := by decide +kernel
theorem dL_masters_75 : decode cL_masters 75 = .ok (.aload_n 0, 1) := by decide +kernel
theorem dL_masters_76 : decode cL_masters 76 = .ok (.iconst 0, 1) := by decide +kernel
theorem dL_masters_77 : decode cL_masters 77 = .ok (.iconst 2, 1) := by decide +kernel
theorem dL_masters_78 : decode cL_masters 78 = .ok (.invokestatic 116, 3) := by decide +kernel
theorem dL_masters_81 : decode cL_masters 81 = .ok (.ifCond .eq 201, 3) := by decide +kernel
theorem dL_masters_84 : decode cL_masters 84 = .ok (.aload_n 0, 1) := by decide +kernel
theorem dL_masters_85 : decode cL_masters 85 = .ok (.iconst 0, 1) := by decide +kernel
theorem dL_masters_86 : decode cL_masters 86 = .ok (.iconst 0, 1) := by decide +kernel
theorem dL_masters_87 : decode cL_masters 87 = .ok (.iconst 5, 1) := by decide +kernel
theorem dL_masters_88 : decode cL_masters 88 = .ok (.iconst 0, 1) := by decide +kernel
theorem dL_masters_89 : decode cL_masters 89 = .ok (.invokevirtual 26, 3) := by decide +kernel
theorem dL_masters_92 : decode cL_masters 92 = .ok (.iconst 2, 1) := by decide +kernel
theorem dL_masters_93 : decode cL_masters 93 = .ok (.if_icmp .ne 189, 3) := by decide +kernel
theorem dL_masters_96 : decode cL_masters 96 = .ok (.aload_n 0, 1) := by decide +kernel
theorem dL_masters_97 : decode cL_masters 97 = .ok (.iconst 0, 1) := by decide +kernel
theorem dL_masters_98 : decode cL_masters 98 = .ok (.iconst 2, 1) := by decide +kernel
theorem dL_masters_99 : decode cL_masters 99 = .ok (.bipush 7, 2) := by decide +kernel
theorem dL_masters_101 : decode cL_masters 101 = .ok (.iconst 0, 1) := by decide +kernel
theorem dL_masters_102 : decode cL_masters 102 = .ok (.invokevirtual 26, 3) := by decide +kernel
theorem dL_masters_105 : decode cL_masters 105 = .ok (.iconst 3, 1) := by decide +kernel
theorem dL_masters_106 : decode cL_masters 106 = .ok (.if_icmp .ne 176, 3) := by decide +kernel
theorem dL_masters_109 : decode cL_masters 109 = .ok (.aload_n 0, 1) := by decide +kernel
theorem dL_masters_110 : decode cL_masters 110 = .ok (.iconst 0, 1) := by decide +kernel
theorem dL_masters_111 : decode cL_masters 111 = .ok (.invokevirtual 48, 3) := by decide +kernel
theorem dL_masters_114 : decode cL_masters 114 = .ok (.iconst 4, 1) := by decide +kernel
theorem dL_masters_115 : decode cL_masters 115 = .ok (.if_icmp .ne 167, 3) := by decide +kernel
theorem dL_masters_118 : decode cL_masters 118 = .ok (.aload_n 0, 1) := by decide +kernel
theorem dL_masters_119 : decode cL_masters 119 = .ok (.iconst 1, 1) := by decide +kernel
theorem dL_masters_120 : decode cL_masters 120 = .ok (.invokevirtual 48, 3) := by decide +kernel
theorem dL_masters_123 : decode cL_masters 123 = .ok (.iconst 2, 1) := by decide +kernel
theorem dL_masters_124 : decode cL_masters 124 = .ok (.if_icmp .ne 158, 3) := by decide +kernel
theorem dL_masters_127 : decode cL_masters 127 = .ok (.aload_n 0, 1) := by decide +kernel
theorem dL_masters_128 : decode cL_masters 128 = .ok (.invokevirtual 87, 3) := by decide +kernel
theorem dL_masters_131 : decode cL_masters 131 = .ok (.ifCond .ne 151, 3) := by decide +kernel
theorem dL_masters_134 : decode cL_masters 134 = .ok (.aload_n 0, 1) := by decide +kernel
theorem dL_masters_135 : decode cL_masters 135 = .ok (.iconst 0, 1) := by decide +kernel
theorem dL_masters_136 : decode cL_masters 136 = .ok (.iconst 0, 1) := by decide +kernel
theorem dL_masters_137 : decode cL_masters 137 = .ok (.iconst 0, 1) := by decide +kernel
theorem dL_masters_138 : decode cL_masters 138 = .ok (.bipush 55, 2) := by decide +kernel
theorem dL_masters_140 : decode cL_masters 140 = .ok (.iconst 0, 1) := by decide +kernel
theorem dL_masters_141 : decode cL_masters 141 = .ok (.invokestatic 98, 3) := by decide +kernel
theorem dL_masters_144 : decode cL_masters 144 = .ok (.bipush (-73), 2) := by decide +kernel
theorem dL_masters_146 : decode cL_masters 146 = .ok (.if_icmp .ne 136, 3) := by decide +kernel
theorem dL_masters_149 : decode cL_masters 149 = .ok (.aload_n 0, 1) := by decide +kernel
theorem dL_masters_150 : decode cL_masters 150 = .ok (.iconst 0, 1) := by decide +kernel
theorem dL_masters_151 : decode cL_masters 151 = .ok (.iconst 0, 1) := by decide +kernel
theorem dL_masters_152 : decode cL_masters 152 = .ok (.iconst 0, 1) := by decide +kernel
theorem dL_masters_153 : decode cL_masters 153 = .ok (.bipush 49, 2) := by decide +kernel
theorem dL_masters_155 : decode cL_masters 155 = .ok (.iconst 0, 1) := by decide +kernel
theorem dL_masters_156 : decode cL_masters 156 = .ok (.invokestatic 98, 3) := by decide +kernel
theorem dL_masters_159 : decode cL_masters 159 = .ok (.bipush (-73), 2) := by decide +kernel
theorem dL_masters_161 : decode cL_masters 161 = .ok (.if_icmp .ne 121, 3) := by decide +kernel
theorem dL_masters_164 : decode cL_masters 164 = .ok (.aload_n 0, 1) := by decide +kernel
theorem dL_masters_165 : decode cL_masters 165 = .ok (.iconst 0, 1) := by decide +kernel
theorem dL_masters_166 : decode cL_masters 166 = .ok (.iconst 0, 1) := by decide +kernel
theorem dL_masters_167 : decode cL_masters 167 = .ok (.bipush 55, 2) := by decide +kernel
theorem dL_masters_169 : decode cL_masters 169 = .ok (.invokevirtual 67, 3) := by decide +kernel
theorem dL_masters_172 : decode cL_masters 172 = .ok (.iconst 2, 1) := by decide +kernel
theorem dL_masters_173 : decode cL_masters 173 = .ok (.if_icmp .ne 109, 3) := by decide +kernel
theorem dL_masters_176 : decode cL_masters 176 = .ok (.aload_n 0, 1) := by decide +kernel
theorem dL_masters_177 : decode cL_masters 177 = .ok (.iconst 0, 1) := by decide +kernel
theorem dL_masters_178 : decode cL_masters 178 = .ok (.iconst 2, 1) := by decide +kernel
theorem dL_masters_179 : decode cL_masters 179 = .ok (.bipush 57, 2) := by decide +kernel
theorem dL_masters_181 : decode cL_masters 181 = .ok (.invokevirtual 67, 3) := by decide +kernel
theorem dL_masters_184 : decode cL_masters 184 = .ok (.iconst 3, 1) := by decide +kernel
theorem dL_masters_185 : decode cL_masters 185 = .ok (.if_icmp .ne 97, 3) := by decide +kernel
theorem dL_masters_188 : decode cL_masters 188 = .ok (.aload_n 0, 1) := by decide +kernel
theorem dL_masters_189 : decode cL_masters 189 = .ok (.iconst 0, 1) := by decide +kernel
theorem dL_masters_190 : decode cL_masters 190 = .ok (.iconst 3, 1) := by decide +kernel
theorem dL_masters_191 : decode cL_masters 191 = .ok (.iconst 0, 1) := by decide +kernel
theorem dL_masters_192 : decode cL_masters 192 = .ok (.invokevirtual 67, 3) := by decide +kernel
theorem dL_masters_195 : decode cL_masters 195 = .ok (.iconst (-1), 1) := by decide +kernel
theorem dL_masters_196 : decode cL_masters 196 = .ok (.if_icmp .ne 86, 3) := by decide +kernel
theorem dL_masters_199 : decode cL_masters 199 = .ok (.aload_n 0, 1) := by decide +kernel
theorem dL_masters_200 : decode cL_masters 200 = .ok (.iconst 1, 1) := by decide +kernel
theorem dL_masters_201 : decode cL_masters 201 = .ok (.iconst 1, 1) := by decide +kernel
theorem dL_masters_202 : decode cL_masters 202 = .ok (.invokevirtual 40, 3) := by decide +kernel
theorem dL_masters_205 : decode cL_masters 205 = .ok (.ifCond .eq 77, 3) := by decide +kernel
theorem dL_masters_208 : decode cL_masters 208 = .ok (.aload_n 0, 1) := by decide +kernel
theorem dL_masters_209 : decode cL_masters 209 = .ok (.iconst 1, 1) := by decide +kernel
theorem dL_masters_210 : decode cL_masters 210 = .ok (.iconst 3, 1) := by decide +kernel
theorem dL_masters_211 : decode cL_masters 211 = .ok (.iconst 1, 1) := by decide +kernel
theorem dL_masters_212 : decode cL_masters 212 = .ok (.bipush 7, 2) := by decide +kernel
theorem dL_masters_214 : decode cL_masters 214 = .ok (.invokestatic 112, 3) := by decide +kernel
theorem dL_masters_217 : decode cL_masters 217 = .ok (.ifCond .eq 65, 3) := by decide +kernel
theorem dL_masters_220 : decode cL_masters 220 = .ok (.aload_n 0, 1) := by decide +kernel
theorem dL_masters_221 : decode cL_masters 221 = .ok (.invokevirtual 87, 3) := by decide +kernel
theorem dL_masters_224 : decode cL_masters 224 = .ok (.ifCond .ne 58, 3) := by decide +kernel
theorem dL_masters_227 : decode cL_masters 227 = .ok (.aload_n 0, 1) := by decide +kernel
theorem dL_masters_228 : decode cL_masters 228 = .ok (.iconst 0, 1) := by decide +kernel
theorem dL_masters_229 : decode cL_masters 229 = .ok (.iconst 1, 1) := by decide +kernel
theorem dL_masters_230 : decode cL_masters 230 = .ok (.invokevirtual 40, 3) := by decide +kernel
theorem dL_masters_233 : decode cL_masters 233 = .ok (.ifCond .eq 49, 3) := by decide +kernel
theorem dL_masters_236 : decode cL_masters 236 = .ok (.aload_n 0, 1) := by decide +kernel
theorem dL_masters_237 : decode cL_masters 237 = .ok (.iconst 1, 1) := by decide +kernel
theorem dL_masters_238 : decode cL_masters 238 = .ok (.iconst 3, 1) := by decide +kernel
theorem dL_masters_239 : decode cL_masters 239 = .ok (.iconst 2, 1) := by decide +kernel
theorem dL_masters_240 : decode cL_masters 240 = .ok (.bipush 7, 2) := by decide +kernel
theorem dL_masters_242 : decode cL_masters 242 = .ok (.invokestatic 112, 3) := by decide +kernel
theorem dL_masters_245 : decode cL_masters 245 = .ok (.ifCond .eq 37, 3) := by decide +kernel
theorem dL_masters_248 : decode cL_masters 248 = .ok (.aload_n 0, 1) := by decide +kernel
theorem dL_masters_249 : decode cL_masters 249 = .ok (.invokevirtual 87, 3) := by decide +kernel
theorem dL_masters_252 : decode cL_masters 252 = .ok (.ifCond .eq 30, 3) := by decide +kernel
theorem dL_masters_255 : decode cL_masters 255 = .ok (.aload_n 0, 1) := by decide +kernel
theorem dL_masters_256 : decode cL_masters 256 = .ok (.iconst 0, 1) := by decide +kernel
theorem dL_masters_257 : decode cL_masters 257 = .ok (.iconst 1, 1) := by decide +kernel
theorem dL_masters_258 : decode cL_masters 258 = .ok (.invokevirtual 40, 3) := by decide +kernel
theorem dL_masters_261 : decode cL_masters 261 = .ok (.ifCond .ne 21, 3) := by decide +kernel
theorem dL_masters_264 : decode cL_masters 264 = .ok (.aload_n 0, 1) := by decide +kernel
theorem dL_masters_265 : decode cL_masters 265 = .ok (.iconst 0, 1) := by decide +kernel
theorem dL_masters_266 : decode cL_masters 266 = .ok (.iconst 0, 1) := by decide +kernel
theorem dL_masters_267 : decode cL_masters 267 = .ok (.invokevirtual 40, 3) := by decide +kernel
theorem dL_masters_270 : decode cL_masters 270 = .ok (.ifCond .ne 12, 3) := by decide +kernel
theorem dL_masters_273 : decode cL_masters 273 = .ok (.aload_n 0, 1) := by decide +kernel
theorem dL_masters_274 : decode cL_masters 274 = .ok (.iconst 0, 1) := by decide +kernel
theorem dL_masters_275 : decode cL_masters 275 = .ok (.iconst 4, 1) := by decide +kernel
theorem dL_masters_276 : decode cL_masters 276 = .ok (.invokestatic 116, 3) := by decide +kernel
theorem dL_masters_279 : decode cL_masters 279 = .ok (.ifCond .ne 5, 3) := by decide +kernel
theorem dL_masters_282 : decode cL_masters 282 = .ok (.iconst 0, 1) := by decide +kernel
theorem dL_masters_283 : decode cL_masters 283 = .ok (.ireturn, 1) := by decide +kernel
theorem dL_masters_284 : decode cL_masters 284 = .ok (.aload_n 0, 1) := by decide +kernel
theorem dL_masters_285 : decode cL_masters 285 = .ok (.iconst 0, 1) := by decide +kernel
theorem dL_masters_286 : decode cL_masters 286 = .ok (.iconst 0, 1) := by decide +kernel
theorem dL_masters_287 : decode cL_masters 287 = .ok (.bipush 10, 2) := by decide +kernel
theorem dL_masters_289 : decode cL_masters 289 = .ok (.iconst 0, 1) := by decide +kernel
theorem dL_masters_290 : decode cL_masters 290 = .ok (.invokevirtual 26, 3) := by decide +kernel
theorem dL_masters_293 : decode cL_masters 293 = .ok (.iconst 4, 1) := by decide +kernel
theorem dL_masters_294 : decode cL_masters 294 = .ok (.if_icmp .ne 217, 3) := by decide +kernel
theorem dL_masters_297 : decode cL_masters 297 = .ok (.aload_n 0, 1) := by decide +kernel
theorem dL_masters_298 : decode cL_masters 298 = .ok (.iconst 1, 1) := by decide +kernel
theorem dL_masters_299 : decode cL_masters 299 = .ok (.iconst 0, 1) := by decide +kernel
theorem dL_masters_300 : decode cL_masters 300 = .ok (.bipush 60, 2) := by decide +kernel
theorem dL_masters_302 : decode cL_masters 302 = .ok (.iconst 0, 1) := by decide +kernel
theorem dL_masters_303 : decode cL_masters 303 = .ok (.invokevirtual 26, 3) := by decide +kernel
theorem dL_masters_306 : decode cL_masters 306 = .ok (.iconst 5, 1) := by decide +kernel
theorem dL_masters_307 : decode cL_masters 307 = .ok (.if_icmp .ne 204, 3) := by decide +kernel
theorem dL_masters_310 : decode cL_masters 310 = .ok (.aload_n 0, 1) := by decide +kernel
theorem dL_masters_311 : decode cL_masters 311 = .ok (.iconst 2, 1) := by decide +kernel
theorem dL_masters_312 : decode cL_masters 312 = .ok (.invokevirtual 44, 3) := by decide +kernel
end
section
theorem dL_masters_315 : decode cL_masters 315 = .ok (.iconst 3, 1) := by decide +kernel
theorem dL_masters_316 : decode cL_masters 316 = .ok (.if_icmp .ne 195, 3) := by decide +kernel
theorem dL_masters_319 : decode cL_masters 319 = .ok (.aload_n 0, 1) := by decide +kernel
theorem dL_masters_320 : decode cL_masters 320 = .ok (.iconst 3, 1) := by decide +kernel
theorem dL_masters_321 : decode cL_masters 321 = .ok (.invokevirtual 44, 3) := by decide +kernel
theorem dL_masters_324 : decode cL_masters 324 = .ok (.iconst 3, 1) := by decide +kernel
theorem dL_masters_325 : decode cL_masters 325 = .ok (.if_icmp .ne 186, 3) := by decide +kernel
theorem dL_masters_328 : decode cL_masters 328 = .ok (.aload_n 0, 1) := by decide +kernel
theorem dL_masters_329 : decode cL_masters 329 = .ok (.iconst 1, 1) := by decide +kernel
theorem dL_masters_330 : decode cL_masters 330 = .ok (.iconst 5, 1) := by decide +kernel
theorem dL_masters_331 : decode cL_masters 331 = .ok (.iconst 0, 1) := by decide +kernel
theorem dL_masters_332 : decode cL_masters 332 = .ok (.bipush 60, 2) := by decide +kernel
theorem dL_masters_334 : decode cL_masters 334 = .ok (.invokestatic 112, 3) := by decide +kernel
theorem dL_masters_337 : decode cL_masters 337 = .ok (.ifCond .eq 174, 3) := by decide +kernel
theorem dL_masters_340 : decode cL_masters 340 = .ok (.aload_n 0, 1) := by decide +kernel
theorem dL_masters_341 : decode cL_masters 341 = .ok (.iconst 2, 1) := by decide +kernel
theorem dL_masters_342 : decode cL_masters 342 = .ok (.iconst 1, 1) := by decide +kernel
theorem dL_masters_343 : decode cL_masters 343 = .ok (.invokevirtual 40, 3) := by decide +kernel
theorem dL_masters_346 : decode cL_masters 346 = .ok (.ifCond .eq 165, 3) := by decide +kernel
theorem dL_masters_349 : decode cL_masters 349 = .ok (.aload_n 0, 1) := by decide +kernel
theorem dL_masters_350 : decode cL_masters 350 = .ok (.iconst 1, 1) := by decide +kernel
theorem dL_masters_351 : decode cL_masters 351 = .ok (.iconst 5, 1) := by decide +kernel
theorem dL_masters_352 : decode cL_masters 352 = .ok (.iconst 0, 1) := by decide +kernel
theorem dL_masters_353 : decode cL_masters 353 = .ok (.iconst (-1), 1) := by decide +kernel
theorem dL_masters_354 : decode cL_masters 354 = .ok (.invokestatic 112, 3) := by decide +kernel
theorem dL_masters_357 : decode cL_masters 357 = .ok (.ifCond .eq 154, 3) := by decide +kernel
theorem dL_masters_360 : decode cL_masters 360 = .ok (.aload_n 0, 1) := by decide +kernel
theorem dL_masters_361 : decode cL_masters 361 = .ok (.iconst 3, 1) := by decide +kernel
theorem dL_masters_362 : decode cL_masters 362 = .ok (.iconst 0, 1) := by decide +kernel
theorem dL_masters_363 : decode cL_masters 363 = .ok (.invokevirtual 40, 3) := by decide +kernel
theorem dL_masters_366 : decode cL_masters 366 = .ok (.ifCond .eq 145, 3) := by decide +kernel
theorem dL_masters_369 : decode cL_masters 369 = .ok (.aload_n 0, 1) := by decide +kernel
theorem dL_masters_370 : decode cL_masters 370 = .ok (.iconst 0, 1) := by decide +kernel
theorem dL_masters_371 : decode cL_masters 371 = .ok (.iconst 5, 1) := by decide +kernel
theorem dL_masters_372 : decode cL_masters 372 = .ok (.iconst 0, 1) := by decide +kernel
theorem dL_masters_373 : decode cL_masters 373 = .ok (.iconst (-1), 1) := by decide +kernel
theorem dL_masters_374 : decode cL_masters 374 = .ok (.invokestatic 112, 3) := by decide +kernel
theorem dL_masters_377 : decode cL_masters 377 = .ok (.ifCond .eq 134, 3) := by decide +kernel
theorem dL_masters_380 : decode cL_masters 380 = .ok (.aload_n 0, 1) := by decide +kernel
theorem dL_masters_381 : decode cL_masters 381 = .ok (.iconst 0, 1) := by decide +kernel
theorem dL_masters_382 : decode cL_masters 382 = .ok (.iconst 4, 1) := by decide +kernel
theorem dL_masters_383 : decode cL_masters 383 = .ok (.iconst 0, 1) := by decide +kernel
theorem dL_masters_384 : decode cL_masters 384 = .ok (.bipush 10, 2) := by decide +kernel
theorem dL_masters_386 : decode cL_masters 386 = .ok (.invokestatic 112, 3) := by decide +kernel
theorem dL_masters_389 : decode cL_masters 389 = .ok (.ifCond .eq 122, 3) := by decide +kernel
theorem dL_masters_392 : decode cL_masters 392 = .ok (.aload_n 0, 1) := by decide +kernel
theorem dL_masters_393 : decode cL_masters 393 = .ok (.invokevirtual 87, 3) := by decide +kernel
theorem dL_masters_396 : decode cL_masters 396 = .ok (.ifCond .eq 115, 3) := by decide +kernel
theorem dL_masters_399 : decode cL_masters 399 = .ok (.aload_n 0, 1) := by decide +kernel
theorem dL_masters_400 : decode cL_masters 400 = .ok (.iconst 0, 1) := by decide +kernel
theorem dL_masters_401 : decode cL_masters 401 = .ok (.iconst 3, 1) := by decide +kernel
theorem dL_masters_402 : decode cL_masters 402 = .ok (.invokevirtual 36, 3) := by decide +kernel
theorem dL_masters_405 : decode cL_masters 405 = .ok (.iconst 5, 1) := by decide +kernel
theorem dL_masters_406 : decode cL_masters 406 = .ok (.if_icmp .ne 105, 3) := by decide +kernel
theorem dL_masters_409 : decode cL_masters 409 = .ok (.aload_n 0, 1) := by decide +kernel
theorem dL_masters_410 : decode cL_masters 410 = .ok (.iconst 0, 1) := by decide +kernel
theorem dL_masters_411 : decode cL_masters 411 = .ok (.iconst 3, 1) := by decide +kernel
theorem dL_masters_412 : decode cL_masters 412 = .ok (.invokevirtual 51, 3) := by decide +kernel
theorem dL_masters_415 : decode cL_masters 415 = .ok (.ifCond .ne 96, 3) := by decide +kernel
theorem dL_masters_418 : decode cL_masters 418 = .ok (.aload_n 0, 1) := by decide +kernel
theorem dL_masters_419 : decode cL_masters 419 = .ok (.iconst 1, 1) := by decide +kernel
theorem dL_masters_420 : decode cL_masters 420 = .ok (.iconst 3, 1) := by decide +kernel
theorem dL_masters_421 : decode cL_masters 421 = .ok (.iconst 1, 1) := by decide +kernel
theorem dL_masters_422 : decode cL_masters 422 = .ok (.iconst 0, 1) := by decide +kernel
theorem dL_masters_423 : decode cL_masters 423 = .ok (.invokevirtual 26, 3) := by decide +kernel
theorem dL_masters_426 : decode cL_masters 426 = .ok (.bipush 7, 2) := by decide +kernel
theorem dL_masters_428 : decode cL_masters 428 = .ok (.if_icmp .ne 83, 3) := by decide +kernel
theorem dL_masters_431 : decode cL_masters 431 = .ok (.aload_n 0, 1) := by decide +kernel
theorem dL_masters_432 : decode cL_masters 432 = .ok (.iconst 1, 1) := by decide +kernel
theorem dL_masters_433 : decode cL_masters 433 = .ok (.bipush 7, 2) := by decide +kernel
theorem dL_masters_435 : decode cL_masters 435 = .ok (.iconst 3, 1) := by decide +kernel
theorem dL_masters_436 : decode cL_masters 436 = .ok (.iconst 1, 1) := by decide +kernel
theorem dL_masters_437 : decode cL_masters 437 = .ok (.invokestatic 112, 3) := by decide +kernel
theorem dL_masters_440 : decode cL_masters 440 = .ok (.ifCond .eq 71, 3) := by decide +kernel
theorem dL_masters_443 : decode cL_masters 443 = .ok (.aload_n 0, 1) := by decide +kernel
theorem dL_masters_444 : decode cL_masters 444 = .ok (.iconst 5, 1) := by decide +kernel
theorem dL_masters_445 : decode cL_masters 445 = .ok (.iconst 0, 1) := by decide +kernel
theorem dL_masters_446 : decode cL_masters 446 = .ok (.invokevirtual 40, 3) := by decide +kernel
theorem dL_masters_449 : decode cL_masters 449 = .ok (.ifCond .eq 62, 3) := by decide +kernel
theorem dL_masters_452 : decode cL_masters 452 = .ok (.aload_n 0, 1) := by decide +kernel
theorem dL_masters_453 : decode cL_masters 453 = .ok (.iconst 0, 1) := by decide +kernel
theorem dL_masters_454 : decode cL_masters 454 = .ok (.bipush 7, 2) := by decide +kernel
theorem dL_masters_456 : decode cL_masters 456 = .ok (.iconst 1, 1) := by decide +kernel
theorem dL_masters_457 : decode cL_masters 457 = .ok (.iconst 1, 1) := by decide +kernel
theorem dL_masters_458 : decode cL_masters 458 = .ok (.invokestatic 112, 3) := by decide +kernel
theorem dL_masters_461 : decode cL_masters 461 = .ok (.ifCond .eq 50, 3) := by decide +kernel
theorem dL_masters_464 : decode cL_masters 464 = .ok (.aload_n 0, 1) := by decide +kernel
theorem dL_masters_465 : decode cL_masters 465 = .ok (.iconst 4, 1) := by decide +kernel
theorem dL_masters_466 : decode cL_masters 466 = .ok (.iconst 1, 1) := by decide +kernel
theorem dL_masters_467 : decode cL_masters 467 = .ok (.invokevirtual 40, 3) := by decide +kernel
theorem dL_masters_470 : decode cL_masters 470 = .ok (.ifCond .eq 41, 3) := by decide +kernel
theorem dL_masters_473 : decode cL_masters 473 = .ok (.aload_n 0, 1) := by decide +kernel
theorem dL_masters_474 : decode cL_masters 474 = .ok (.iconst 1, 1) := by decide +kernel
theorem dL_masters_475 : decode cL_masters 475 = .ok (.bipush 7, 2) := by decide +kernel
theorem dL_masters_477 : decode cL_masters 477 = .ok (.iconst 1, 1) := by decide +kernel
theorem dL_masters_478 : decode cL_masters 478 = .ok (.iconst 1, 1) := by decide +kernel
theorem dL_masters_479 : decode cL_masters 479 = .ok (.invokestatic 112, 3) := by decide +kernel
theorem dL_masters_482 : decode cL_masters 482 = .ok (.ifCond .eq 29, 3) := by decide +kernel
theorem dL_masters_485 : decode cL_masters 485 = .ok (.aload_n 0, 1) := by decide +kernel
theorem dL_masters_486 : decode cL_masters 486 = .ok (.iconst 1, 1) := by decide +kernel
theorem dL_masters_487 : decode cL_masters 487 = .ok (.bipush 6, 2) := by decide +kernel
theorem dL_masters_489 : decode cL_masters 489 = .ok (.invokevirtual 51, 3) := by decide +kernel
theorem dL_masters_492 : decode cL_masters 492 = .ok (.ifCond .ne 19, 3) := by decide +kernel
theorem dL_masters_495 : decode cL_masters 495 = .ok (.aload_n 0, 1) := by decide +kernel
theorem dL_masters_496 : decode cL_masters 496 = .ok (.invokevirtual 87, 3) := by decide +kernel
theorem dL_masters_499 : decode cL_masters 499 = .ok (.ifCond .eq 12, 3) := by decide +kernel
theorem dL_masters_502 : decode cL_masters 502 = .ok (.aload_n 0, 1) := by decide +kernel
theorem dL_masters_503 : decode cL_masters 503 = .ok (.iconst 0, 1) := by decide +kernel
theorem dL_masters_504 : decode cL_masters 504 = .ok (.iconst 3, 1) := by decide +kernel
theorem dL_masters_505 : decode cL_masters 505 = .ok (.invokestatic 116, 3) := by decide +kernel
theorem dL_masters_508 : decode cL_masters 508 = .ok (.ifCond .ne 5, 3) := by decide +kernel
theorem dL_masters_511 : decode cL_masters 511 = .ok (.iconst 0, 1) := by decide +kernel
theorem dL_masters_512 : decode cL_masters 512 = .ok (.ireturn, 1) := by decide +kernel
theorem dL_masters_513 : decode cL_masters 513 = .ok (.aload_n 0, 1) := by decide +kernel
theorem dL_masters_514 : decode cL_masters 514 = .ok (.iconst 0, 1) := by decide +kernel
theorem dL_masters_515 : decode cL_masters 515 = .ok (.iconst 0, 1) := by decide +kernel
theorem dL_masters_516 : decode cL_masters 516 = .ok (.bipush 20, 2) := by decide +kernel
theorem dL_masters_518 : decode cL_masters 518 = .ok (.iconst 0, 1) := by decide +kernel
theorem dL_masters_519 : decode cL_masters 519 = .ok (.invokevirtual 26, 3) := by decide +kernel
theorem dL_masters_522 : decode cL_masters 522 = .ok (.bipush 8, 2) := by decide +kernel
theorem dL_masters_524 : decode cL_masters 524 = .ok (.if_icmp .ne 170, 3) := by decide +kernel
theorem dL_masters_527 : decode cL_masters 527 = .ok (.aload_n 0, 1) := by decide +kernel
theorem dL_masters_528 : decode cL_masters 528 = .ok (.bipush 6, 2) := by decide +kernel
theorem dL_masters_530 : decode cL_masters 530 = .ok (.invokevirtual 44, 3) := by decide +kernel
theorem dL_masters_533 : decode cL_masters 533 = .ok (.iconst 5, 1) := by decide +kernel
theorem dL_masters_534 : decode cL_masters 534 = .ok (.if_icmp .ne 160, 3) := by decide +kernel
theorem dL_masters_537 : decode cL_masters 537 = .ok (.aload_n 0, 1) := by decide +kernel
theorem dL_masters_538 : decode cL_masters 538 = .ok (.bipush 6, 2) := by decide +kernel
theorem dL_masters_540 : decode cL_masters 540 = .ok (.iconst 1, 1) := by decide +kernel
theorem dL_masters_541 : decode cL_masters 541 = .ok (.invokevirtual 40, 3) := by decide +kernel
theorem dL_masters_544 : decode cL_masters 544 = .ok (.ifCond .eq 150, 3) := by decide +kernel
theorem dL_masters_547 : decode cL_masters 547 = .ok (.aload_n 0, 1) := by decide +kernel
theorem dL_masters_548 : decode cL_masters 548 = .ok (.iconst 0, 1) := by decide +kernel
theorem dL_masters_549 : decode cL_masters 549 = .ok (.iconst 2, 1) := by decide +kernel
theorem dL_masters_550 : decode cL_masters 550 = .ok (.bipush 8, 2) := by decide +kernel
theorem dL_masters_552 : decode cL_masters 552 = .ok (.iconst 2, 1) := by decide +kernel
theorem dL_masters_553 : decode cL_masters 553 = .ok (.invokevirtual 33, 3) := by decide +kernel
theorem dL_masters_556 : decode cL_masters 556 = .ok (.ifCond .ne 138, 3) := by decide +kernel
theorem dL_masters_559 : decode cL_masters 559 = .ok (.aload_n 0, 1) := by decide +kernel
theorem dL_masters_560 : decode cL_masters 560 = .ok (.iconst 1, 1) := by decide +kernel
theorem dL_masters_561 : decode cL_masters 561 = .ok (.bipush 8, 2) := by decide +kernel
theorem dL_masters_563 : decode cL_masters 563 = .ok (.iconst 2, 1) := by decide +kernel
theorem dL_masters_564 : decode cL_masters 564 = .ok (.iconst 3, 1) := by decide +kernel
theorem dL_masters_565 : decode cL_masters 565 = .ok (.invokevirtual 33, 3) := by decide +kernel
theorem dL_masters_568 : decode cL_masters 568 = .ok (.ifCond .ne 126, 3) := by decide +kernel
theorem dL_masters_571 : decode cL_masters 571 = .ok (.aload_n 0, 1) := by decide +kernel
theorem dL_masters_572 : decode cL_masters 572 = .ok (.iconst 1, 1) := by decide +kernel
theorem dL_masters_573 : decode cL_masters 573 = .ok (.bipush 8, 2) := by decide +kernel
theorem dL_masters_575 : decode cL_masters 575 = .ok (.iconst 2, 1) := by decide +kernel
theorem dL_masters_576 : decode cL_masters 576 = .ok (.iconst 3, 1) := by decide +kernel
theorem dL_masters_577 : decode cL_masters 577 = .ok (.invokestatic 112, 3) := by decide +kernel
theorem dL_masters_580 : decode cL_masters 580 = .ok (.ifCond .eq 114, 3) := by decide +kernel
theorem dL_masters_583 : decode cL_masters 583 = .ok (.aload_n 0, 1) := by decide +kernel
theorem dL_masters_584 : decode cL_masters 584 = .ok (.bipush 7, 2) := by decide +kernel
theorem dL_masters_586 : decode cL_masters 586 = .ok (.iconst 1, 1) := by decide +kernel
theorem dL_masters_587 : decode cL_masters 587 = .ok (.invokevirtual 40, 3) := by decide +kernel
theorem dL_masters_590 : decode cL_masters 590 = .ok (.ifCond .eq 104, 3) := by decide +kernel
theorem dL_masters_593 : decode cL_masters 593 = .ok (.aload_n 0, 1) := by decide +kernel
theorem dL_masters_594 : decode cL_masters 594 = .ok (.bipush 8, 2) := by decide +kernel
theorem dL_masters_596 : decode cL_masters 596 = .ok (.iconst 0, 1) := by decide +kernel
theorem dL_masters_597 : decode cL_masters 597 = .ok (.invokevirtual 40, 3) := by decide +kernel
theorem dL_masters_600 : decode cL_masters 600 = .ok (.ifCond .eq 94, 3) := by decide +kernel
theorem dL_masters_603 : decode cL_masters 603 = .ok (.aload_n 0, 1) := by decide +kernel
theorem dL_masters_604 : decode cL_masters 604 = .ok (.iconst 0, 1) := by decide +kernel
theorem dL_masters_605 : decode cL_masters 605 = .ok (.iconst 2, 1) := by decide +kernel
theorem dL_masters_606 : decode cL_masters 606 = .ok (.bipush 8, 2) := by decide +kernel
theorem dL_masters_608 : decode cL_masters 608 = .ok (.iconst 2, 1) := by decide +kernel
theorem dL_masters_609 : decode cL_masters 609 = .ok (.invokestatic 112, 3) := by decide +kernel
theorem dL_masters_612 : decode cL_masters 612 = .ok (.ifCond .eq 82, 3) := by decide +kernel
theorem dL_masters_615 : decode cL_masters 615 = .ok (.aload_n 0, 1) := by decide +kernel
theorem dL_masters_616 : decode cL_masters 616 = .ok (.iconst 1, 1) := by decide +kernel
theorem dL_masters_617 : decode cL_masters 617 = .ok (.bipush 8, 2) := by decide +kernel
theorem dL_masters_619 : decode cL_masters 619 = .ok (.iconst 0, 1) := by decide +kernel
theorem dL_masters_620 : decode cL_masters 620 = .ok (.bipush 20, 2) := by decide +kernel
theorem dL_masters_622 : decode cL_masters 622 = .ok (.invokestatic 112, 3) := by decide +kernel
theorem dL_masters_625 : decode cL_masters 625 = .ok (.ifCond .eq 69, 3) := by decide +kernel
theorem dL_masters_628 : decode cL_masters 628 = .ok (.aload_n 0, 1) := by decide +kernel
theorem dL_masters_629 : decode cL_masters 629 = .ok (.invokevirtual 87, 3) := by decide +kernel
theorem dL_masters_632 : decode cL_masters 632 = .ok (.ifCond .eq 62, 3) := by decide +kernel
theorem dL_masters_635 : decode cL_masters 635 = .ok (.aload_n 0, 1) := by decide +kernel
end
section
theorem dL_masters_636 : decode cL_masters 636 = .ok (.iconst 2, 1) := by decide +kernel
theorem dL_masters_637 : decode cL_masters 637 = .ok (.iconst 0, 1) := by decide +kernel
theorem dL_masters_638 : decode cL_masters 638 = .ok (.bipush 8, 2) := by decide +kernel
theorem dL_masters_640 : decode cL_masters 640 = .ok (.iconst 2, 1) := by decide +kernel
theorem dL_masters_641 : decode cL_masters 641 = .ok (.bipush 9, 2) := by decide +kernel
theorem dL_masters_643 : decode cL_masters 643 = .ok (.invokestatic 98, 3) := by decide +kernel
theorem dL_masters_646 : decode cL_masters 646 = .ok (.bipush (-73), 2) := by decide +kernel
theorem dL_masters_648 : decode cL_masters 648 = .ok (.if_icmp .ne 46, 3) := by decide +kernel
theorem dL_masters_651 : decode cL_masters 651 = .ok (.aload_n 0, 1) := by decide +kernel
theorem dL_masters_652 : decode cL_masters 652 = .ok (.iconst 2, 1) := by decide +kernel
theorem dL_masters_653 : decode cL_masters 653 = .ok (.iconst 0, 1) := by decide +kernel
theorem dL_masters_654 : decode cL_masters 654 = .ok (.bipush 8, 2) := by decide +kernel
theorem dL_masters_656 : decode cL_masters 656 = .ok (.bipush 8, 2) := by decide +kernel
theorem dL_masters_658 : decode cL_masters 658 = .ok (.bipush 9, 2) := by decide +kernel
theorem dL_masters_660 : decode cL_masters 660 = .ok (.invokestatic 98, 3) := by decide +kernel
theorem dL_masters_663 : decode cL_masters 663 = .ok (.bipush (-73), 2) := by decide +kernel
theorem dL_masters_665 : decode cL_masters 665 = .ok (.if_icmp .ne 29, 3) := by decide +kernel
theorem dL_masters_668 : decode cL_masters 668 = .ok (.aload_n 0, 1) := by decide +kernel
theorem dL_masters_669 : decode cL_masters 669 = .ok (.iconst 3, 1) := by decide +kernel
theorem dL_masters_670 : decode cL_masters 670 = .ok (.iconst 0, 1) := by decide +kernel
theorem dL_masters_671 : decode cL_masters 671 = .ok (.bipush 8, 2) := by decide +kernel
theorem dL_masters_673 : decode cL_masters 673 = .ok (.iconst 0, 1) := by decide +kernel
theorem dL_masters_674 : decode cL_masters 674 = .ok (.iconst 0, 1) := by decide +kernel
theorem dL_masters_675 : decode cL_masters 675 = .ok (.invokestatic 98, 3) := by decide +kernel
theorem dL_masters_678 : decode cL_masters 678 = .ok (.bipush (-73), 2) := by decide +kernel
theorem dL_masters_680 : decode cL_masters 680 = .ok (.if_icmp .ne 14, 3) := by decide +kernel
theorem dL_masters_683 : decode cL_masters 683 = .ok (.aload_n 0, 1) := by decide +kernel
theorem dL_masters_684 : decode cL_masters 684 = .ok (.bipush 8, 2) := by decide +kernel
theorem dL_masters_686 : decode cL_masters 686 = .ok (.invokevirtual 44, 3) := by decide +kernel
theorem dL_masters_689 : decode cL_masters 689 = .ok (.bipush 6, 2) := by decide +kernel
theorem dL_masters_691 : decode cL_masters 691 = .ok (.if_icmp .eq 5, 3) := by decide +kernel
theorem dL_masters_694 : decode cL_masters 694 = .ok (.iconst 0, 1) := by decide +kernel
theorem dL_masters_695 : decode cL_masters 695 = .ok (.ireturn, 1) := by decide +kernel
theorem dL_masters_696 : decode cL_masters 696 = .ok (.aload_n 0, 1) := by decide +kernel
theorem dL_masters_697 : decode cL_masters 697 = .ok (.iconst 0, 1) := by decide +kernel
theorem dL_masters_698 : decode cL_masters 698 = .ok (.iconst 2, 1) := by decide +kernel
theorem dL_masters_699 : decode cL_masters 699 = .ok (.iconst 1, 1) := by decide +kernel
theorem dL_masters_700 : decode cL_masters 700 = .ok (.iconst 0, 1) := by decide +kernel
theorem dL_masters_701 : decode cL_masters 701 = .ok (.invokevirtual 26, 3) := by decide +kernel
theorem dL_masters_704 : decode cL_masters 704 = .ok (.bipush 11, 2) := by decide +kernel
theorem dL_masters_706 : decode cL_masters 706 = .ok (.if_icmp .ne 208, 3) := by decide +kernel
theorem dL_masters_709 : decode cL_masters 709 = .ok (.aload_n 0, 1) := by decide +kernel
theorem dL_masters_710 : decode cL_masters 710 = .ok (.iconst 0, 1) := by decide +kernel
theorem dL_masters_711 : decode cL_masters 711 = .ok (.iconst 2, 1) := by decide +kernel
theorem dL_masters_712 : decode cL_masters 712 = .ok (.bipush 52, 2) := by decide +kernel
theorem dL_masters_714 : decode cL_masters 714 = .ok (.iconst 0, 1) := by decide +kernel
theorem dL_masters_715 : decode cL_masters 715 = .ok (.invokevirtual 26, 3) := by decide +kernel
theorem dL_masters_718 : decode cL_masters 718 = .ok (.bipush 12, 2) := by decide +kernel
theorem dL_masters_720 : decode cL_masters 720 = .ok (.if_icmp .ne 194, 3) := by decide +kernel
theorem dL_masters_723 : decode cL_masters 723 = .ok (.aload_n 0, 1) := by decide +kernel
theorem dL_masters_724 : decode cL_masters 724 = .ok (.iconst 0, 1) := by decide +kernel
theorem dL_masters_725 : decode cL_masters 725 = .ok (.bipush 11, 2) := by decide +kernel
theorem dL_masters_727 : decode cL_masters 727 = .ok (.iconst 3, 1) := by decide +kernel
theorem dL_masters_728 : decode cL_masters 728 = .ok (.iconst 4, 1) := by decide +kernel
theorem dL_masters_729 : decode cL_masters 729 = .ok (.invokevirtual 30, 3) := by decide +kernel
theorem dL_masters_732 : decode cL_masters 732 = .ok (.iconst (-1), 1) := by decide +kernel
theorem dL_masters_733 : decode cL_masters 733 = .ok (.if_icmp .ne 181, 3) := by decide +kernel
theorem dL_masters_736 : decode cL_masters 736 = .ok (.aload_n 0, 1) := by decide +kernel
theorem dL_masters_737 : decode cL_masters 737 = .ok (.iconst 0, 1) := by decide +kernel
theorem dL_masters_738 : decode cL_masters 738 = .ok (.bipush 11, 2) := by decide +kernel
theorem dL_masters_740 : decode cL_masters 740 = .ok (.iconst 3, 1) := by decide +kernel
theorem dL_masters_741 : decode cL_masters 741 = .ok (.bipush 9, 2) := by decide +kernel
theorem dL_masters_743 : decode cL_masters 743 = .ok (.invokevirtual 30, 3) := by decide +kernel
theorem dL_masters_746 : decode cL_masters 746 = .ok (.iconst 4, 1) := by decide +kernel
theorem dL_masters_747 : decode cL_masters 747 = .ok (.if_icmp .ne 167, 3) := by decide +kernel
theorem dL_masters_750 : decode cL_masters 750 = .ok (.aload_n 0, 1) := by decide +kernel
theorem dL_masters_751 : decode cL_masters 751 = .ok (.iconst 0, 1) := by decide +kernel
theorem dL_masters_752 : decode cL_masters 752 = .ok (.bipush 11, 2) := by decide +kernel
theorem dL_masters_754 : decode cL_masters 754 = .ok (.iconst 3, 1) := by decide +kernel
theorem dL_masters_755 : decode cL_masters 755 = .ok (.invokevirtual 60, 3) := by decide +kernel
theorem dL_masters_758 : decode cL_masters 758 = .ok (.bipush 9, 2) := by decide +kernel
theorem dL_masters_760 : decode cL_masters 760 = .ok (.if_icmp .ne 154, 3) := by decide +kernel
theorem dL_masters_763 : decode cL_masters 763 = .ok (.aload_n 0, 1) := by decide +kernel
theorem dL_masters_764 : decode cL_masters 764 = .ok (.iconst 0, 1) := by decide +kernel
theorem dL_masters_765 : decode cL_masters 765 = .ok (.bipush 7, 2) := by decide +kernel
theorem dL_masters_767 : decode cL_masters 767 = .ok (.iconst 0, 1) := by decide +kernel
theorem dL_masters_768 : decode cL_masters 768 = .ok (.bipush 77, 2) := by decide +kernel
theorem dL_masters_770 : decode cL_masters 770 = .ok (.invokevirtual 33, 3) := by decide +kernel
theorem dL_masters_773 : decode cL_masters 773 = .ok (.iconst 1, 1) := by decide +kernel
theorem dL_masters_774 : decode cL_masters 774 = .ok (.if_icmp .ne 140, 3) := by decide +kernel
theorem dL_masters_777 : decode cL_masters 777 = .ok (.aload_n 0, 1) := by decide +kernel
theorem dL_masters_778 : decode cL_masters 778 = .ok (.iconst 0, 1) := by decide +kernel
theorem dL_masters_779 : decode cL_masters 779 = .ok (.bipush 7, 2) := by decide +kernel
theorem dL_masters_781 : decode cL_masters 781 = .ok (.iconst 1, 1) := by decide +kernel
theorem dL_masters_782 : decode cL_masters 782 = .ok (.iconst 2, 1) := by decide +kernel
theorem dL_masters_783 : decode cL_masters 783 = .ok (.invokevirtual 33, 3) := by decide +kernel
theorem dL_masters_786 : decode cL_masters 786 = .ok (.ifCond .ne 128, 3) := by decide +kernel
theorem dL_masters_789 : decode cL_masters 789 = .ok (.aload_n 0, 1) := by decide +kernel
theorem dL_masters_790 : decode cL_masters 790 = .ok (.invokevirtual 87, 3) := by decide +kernel
theorem dL_masters_793 : decode cL_masters 793 = .ok (.ifCond .ne 121, 3) := by decide +kernel
theorem dL_masters_796 : decode cL_masters 796 = .ok (.aload_n 0, 1) := by decide +kernel
theorem dL_masters_797 : decode cL_masters 797 = .ok (.iconst 3, 1) := by decide +kernel
theorem dL_masters_798 : decode cL_masters 798 = .ok (.iconst 0, 1) := by decide +kernel
theorem dL_masters_799 : decode cL_masters 799 = .ok (.iconst 2, 1) := by decide +kernel
theorem dL_masters_800 : decode cL_masters 800 = .ok (.iconst 0, 1) := by decide +kernel
theorem dL_masters_801 : decode cL_masters 801 = .ok (.iconst 0, 1) := by decide +kernel
theorem dL_masters_802 : decode cL_masters 802 = .ok (.invokestatic 98, 3) := by decide +kernel
theorem dL_masters_805 : decode cL_masters 805 = .ok (.bipush (-73), 2) := by decide +kernel
theorem dL_masters_807 : decode cL_masters 807 = .ok (.if_icmp .ne 107, 3) := by decide +kernel
theorem dL_masters_810 : decode cL_masters 810 = .ok (.aload_n 0, 1) := by decide +kernel
theorem dL_masters_811 : decode cL_masters 811 = .ok (.iconst 1, 1) := by decide +kernel
theorem dL_masters_812 : decode cL_masters 812 = .ok (.iconst 2, 1) := by decide +kernel
theorem dL_masters_813 : decode cL_masters 813 = .ok (.invokevirtual 36, 3) := by decide +kernel
theorem dL_masters_816 : decode cL_masters 816 = .ok (.bipush 6, 2) := by decide +kernel
theorem dL_masters_818 : decode cL_masters 818 = .ok (.if_icmp .ne 96, 3) := by decide +kernel
theorem dL_masters_821 : decode cL_masters 821 = .ok (.aload_n 0, 1) := by decide +kernel
theorem dL_masters_822 : decode cL_masters 822 = .ok (.bipush 15, 2) := by decide +kernel
theorem dL_masters_824 : decode cL_masters 824 = .ok (.invokevirtual 44, 3) := by decide +kernel
theorem dL_masters_827 : decode cL_masters 827 = .ok (.bipush 7, 2) := by decide +kernel
theorem dL_masters_829 : decode cL_masters 829 = .ok (.if_icmp .ne 85, 3) := by decide +kernel
theorem dL_masters_832 : decode cL_masters 832 = .ok (.aload_n 0, 1) := by decide +kernel
theorem dL_masters_833 : decode cL_masters 833 = .ok (.bipush 15, 2) := by decide +kernel
theorem dL_masters_835 : decode cL_masters 835 = .ok (.iconst 0, 1) := by decide +kernel
theorem dL_masters_836 : decode cL_masters 836 = .ok (.invokevirtual 40, 3) := by decide +kernel
theorem dL_masters_839 : decode cL_masters 839 = .ok (.ifCond .eq 75, 3) := by decide +kernel
theorem dL_masters_842 : decode cL_masters 842 = .ok (.aload_n 0, 1) := by decide +kernel
theorem dL_masters_843 : decode cL_masters 843 = .ok (.iconst 0, 1) := by decide +kernel
theorem dL_masters_844 : decode cL_masters 844 = .ok (.iconst 2, 1) := by decide +kernel
theorem dL_masters_845 : decode cL_masters 845 = .ok (.invokevirtual 51, 3) := by decide +kernel
theorem dL_masters_848 : decode cL_masters 848 = .ok (.ifCond .ne 66, 3) := by decide +kernel
theorem dL_masters_851 : decode cL_masters 851 = .ok (.aload_n 0, 1) := by decide +kernel
theorem dL_masters_852 : decode cL_masters 852 = .ok (.iconst 0, 1) := by decide +kernel
theorem dL_masters_853 : decode cL_masters 853 = .ok (.bipush 11, 2) := by decide +kernel
theorem dL_masters_855 : decode cL_masters 855 = .ok (.iconst 1, 1) := by decide +kernel
theorem dL_masters_856 : decode cL_masters 856 = .ok (.iconst (-1), 1) := by decide +kernel
theorem dL_masters_857 : decode cL_masters 857 = .ok (.invokestatic 112, 3) := by decide +kernel
theorem dL_masters_860 : decode cL_masters 860 = .ok (.ifCond .eq 54, 3) := by decide +kernel
theorem dL_masters_863 : decode cL_masters 863 = .ok (.aload_n 0, 1) := by decide +kernel
theorem dL_masters_864 : decode cL_masters 864 = .ok (.iconst 0, 1) := by decide +kernel
theorem dL_masters_865 : decode cL_masters 865 = .ok (.bipush 12, 2) := by decide +kernel
theorem dL_masters_867 : decode cL_masters 867 = .ok (.iconst 1, 1) := by decide +kernel
theorem dL_masters_868 : decode cL_masters 868 = .ok (.bipush 52, 2) := by decide +kernel
theorem dL_masters_870 : decode cL_masters 870 = .ok (.invokestatic 112, 3) := by decide +kernel
theorem dL_masters_873 : decode cL_masters 873 = .ok (.ifCond .eq 41, 3) := by decide +kernel
theorem dL_masters_876 : decode cL_masters 876 = .ok (.aload_n 0, 1) := by decide +kernel
theorem dL_masters_877 : decode cL_masters 877 = .ok (.iconst 0, 1) := by decide +kernel
theorem dL_masters_878 : decode cL_masters 878 = .ok (.bipush 7, 2) := by decide +kernel
theorem dL_masters_880 : decode cL_masters 880 = .ok (.iconst 1, 1) := by decide +kernel
theorem dL_masters_881 : decode cL_masters 881 = .ok (.iconst (-1), 1) := by decide +kernel
theorem dL_masters_882 : decode cL_masters 882 = .ok (.invokestatic 112, 3) := by decide +kernel
theorem dL_masters_885 : decode cL_masters 885 = .ok (.ifCond .eq 29, 3) := by decide +kernel
theorem dL_masters_888 : decode cL_masters 888 = .ok (.aload_n 0, 1) := by decide +kernel
theorem dL_masters_889 : decode cL_masters 889 = .ok (.iconst 0, 1) := by decide +kernel
theorem dL_masters_890 : decode cL_masters 890 = .ok (.bipush 11, 2) := by decide +kernel
theorem dL_masters_892 : decode cL_masters 892 = .ok (.iconst 3, 1) := by decide +kernel
theorem dL_masters_893 : decode cL_masters 893 = .ok (.invokevirtual 60, 3) := by decide +kernel
theorem dL_masters_896 : decode cL_masters 896 = .ok (.bipush 9, 2) := by decide +kernel
theorem dL_masters_898 : decode cL_masters 898 = .ok (.if_icmp .ne 16, 3) := by decide +kernel
theorem dL_masters_901 : decode cL_masters 901 = .ok (.aload_n 0, 1) := by decide +kernel
theorem dL_masters_902 : decode cL_masters 902 = .ok (.iconst 0, 1) := by decide +kernel
theorem dL_masters_903 : decode cL_masters 903 = .ok (.iconst 2, 1) := by decide +kernel
theorem dL_masters_904 : decode cL_masters 904 = .ok (.invokestatic 116, 3) := by decide +kernel
theorem dL_masters_907 : decode cL_masters 907 = .ok (.ifCond .eq 7, 3) := by decide +kernel
theorem dL_masters_910 : decode cL_masters 910 = .ok (.iconst 1, 1) := by decide +kernel
theorem dL_masters_911 : decode cL_masters 911 = .ok (.goto 4, 3) := by decide +kernel
theorem dL_masters_914 : decode cL_masters 914 = .ok (.iconst 0, 1) := by decide +kernel
theorem dL_masters_915 : decode cL_masters 915 = .ok (.ireturn, 1) := by decide +kernel
end
section
theorem dL_refuses_0 : decode cL_refuses 0 = .ok (.aload_n 0, 1) := by decide +kernel
theorem dL_refuses_1 : decode cL_refuses 1 = .ok (.invokevirtual 83, 3) := by decide +kernel
theorem dL_refuses_4 : decode cL_refuses 4 = .ok (.istore_n 3, 1) := by decide +kernel
theorem dL_refuses_5 : decode cL_refuses 5 = .ok (.aload_n 0, 1) := by decide +kernel
theorem dL_refuses_6 : decode cL_refuses 6 = .ok (.iconst 0, 1) := by decide +kernel
theorem dL_refuses_7 : decode cL_refuses 7 = .ok (.invokevirtual 48, 3) := by decide +kernel
theorem dL_refuses_10 : decode cL_refuses 10 = .ok (.istore 4, 2) := by decide +kernel
theorem dL_refuses_12 : decode cL_refuses 12 = .ok (.aload_n 0, 1) := by decide +kernel
theorem dL_refuses_13 : decode cL_refuses 13 = .ok (.iconst 1, 1) := by decide +kernel
theorem dL_refuses_14 : decode cL_refuses 14 = .ok (.invokevirtual 48, 3) := by decide +kernel
theorem dL_refuses_17 : decode cL_refuses 17 = .ok (.istore 5, 2) := by decide +kernel
theorem dL_refuses_19 : decode cL_refuses 19 = .ok (.aload_n 0, 1) := by decide +kernel
theorem dL_refuses_20 : decode cL_refuses 20 = .ok (.invokevirtual 87, 3) := by decide +kernel
theorem dL_refuses_23 : decode cL_refuses 23 = .ok (.istore 6, 2) := by decide +kernel
theorem dL_refuses_25 : decode cL_refuses 25 = .ok (.ldc 91, 2) := by decide +kernel
theorem dL_refuses_27 : decode cL_refuses 27 = .ok (.istore 7, 2) := by decide +kernel
theorem dL_refuses_29 : decode cL_refuses 29 = .ok (.iconst 0, 1) := by decide +kernel
theorem dL_refuses_30 : decode cL_refuses 30 = .ok (.istore 8, 2) := by decide +kernel
theorem dL_refuses_32 : decode cL_refuses 32 = .ok (.iload 8, 2) := by decide +kernel
theorem dL_refuses_34 : decode cL_refuses 34 = .ok (.iconst 4, 1) := by decide +kernel
theorem dL_refuses_35 : decode cL_refuses 35 = .ok (.if_icmp .ge 1083, 3) := by decide +kernel
theorem dL_refuses_38 : decode cL_refuses 38 = .ok (.iload 8, 2) := by decide +kernel
theorem dL_refuses_40 : decode cL_refuses 40 = .ok (.ifCond .ne 7, 3) := by decide +kernel
theorem dL_refuses_43 : decode cL_refuses 43 = .ok (.iconst (-1), 1) := by decide +kernel
theorem dL_refuses_44 : decode cL_refuses 44 = .ok (.goto 19, 3) := by decide +kernel
theorem dL_refuses_47 : decode cL_refuses 47 = .ok (.iload 8, 2) := by decide +kernel
theorem dL_refuses_49 : decode cL_refuses 49 = .ok (.iconst 2, 1) := by decide +kernel
theorem dL_refuses_50 : decode cL_refuses 50 = .ok (.if_icmp .ne 8, 3) := by decide +kernel
theorem dL_refuses_53 : decode cL_refuses 53 = .ok (.iload 7, 2) := by decide +kernel
theorem dL_refuses_55 : decode cL_refuses 55 = .ok (.goto 8, 3) := by decide +kernel
theorem dL_refuses_58 : decode cL_refuses 58 = .ok (.iload 7, 2) := by decide +kernel
theorem dL_refuses_60 : decode cL_refuses 60 = .ok (.ineg, 1) := by decide +kernel
theorem dL_refuses_61 : decode cL_refuses 61 = .ok (.iconst 1, 1) := by decide +kernel
theorem dL_refuses_62 : decode cL_refuses 62 = .ok (.isub, 1) := by decide +kernel
theorem dL_refuses_63 : decode cL_refuses 63 = .ok (.istore 9, 2) := by decide +kernel
theorem dL_refuses_65 : decode cL_refuses 65 = .ok (.iload 8, 2) := by decide +kernel
theorem dL_refuses_67 : decode cL_refuses 67 = .ok (.ifCond .ne 8, 3) := by decide +kernel
theorem dL_refuses_70 : decode cL_refuses 70 = .ok (.bipush (-2), 2) := by decide +kernel
theorem dL_refuses_72 : decode cL_refuses 72 = .ok (.goto 5, 3) := by decide +kernel
theorem dL_refuses_75 : decode cL_refuses 75 = .ok (.iload 9, 2) := by decide +kernel
theorem dL_refuses_77 : decode cL_refuses 77 = .ok (.istore 10, 2) := by decide +kernel
theorem dL_refuses_79 : decode cL_refuses 79 = .ok (.iload 8, 2) := by decide +kernel
theorem dL_refuses_81 : decode cL_refuses 81 = .ok (.iconst 1, 1) := by decide +kernel
theorem dL_refuses_82 : decode cL_refuses 82 = .ok (.if_icmp .ne 7, 3) := by decide +kernel
theorem dL_refuses_85 : decode cL_refuses 85 = .ok (.iconst 2, 1) := by decide +kernel
theorem dL_refuses_86 : decode cL_refuses 86 = .ok (.goto 5, 3) := by decide +kernel
theorem dL_refuses_89 : decode cL_refuses 89 = .ok (.iload 9, 2) := by decide +kernel
theorem dL_refuses_91 : decode cL_refuses 91 = .ok (.istore 11, 2) := by decide +kernel
theorem dL_refuses_93 : decode cL_refuses 93 = .ok (.iload 8, 2) := by decide +kernel
theorem dL_refuses_95 : decode cL_refuses 95 = .ok (.iconst 1, 1) := by decide +kernel
theorem dL_refuses_96 : decode cL_refuses 96 = .ok (.if_icmp .ne 7, 3) := by decide +kernel
theorem dL_refuses_99 : decode cL_refuses 99 = .ok (.iload_n 2, 1) := by decide +kernel
theorem dL_refuses_100 : decode cL_refuses 100 = .ok (.goto 5, 3) := by decide +kernel
theorem dL_refuses_103 : decode cL_refuses 103 = .ok (.iload 9, 2) := by decide +kernel
theorem dL_refuses_105 : decode cL_refuses 105 = .ok (.istore 12, 2) := by decide +kernel
theorem dL_refuses_107 : decode cL_refuses 107 = .ok (.iload 8, 2) := by decide +kernel
theorem dL_refuses_109 : decode cL_refuses 109 = .ok (.iconst 1, 1) := by decide +kernel
theorem dL_refuses_110 : decode cL_refuses 110 = .ok (.if_icmp .ne 7, 3) := by decide +kernel
theorem dL_refuses_113 : decode cL_refuses 113 = .ok (.iconst 3, 1) := by decide +kernel
theorem dL_refuses_114 : decode cL_refuses 114 = .ok (.goto 5, 3) := by decide +kernel
theorem dL_refuses_117 : decode cL_refuses 117 = .ok (.iload 9, 2) := by decide +kernel
theorem dL_refuses_119 : decode cL_refuses 119 = .ok (.istore 13, 2) := by decide +kernel
theorem dL_refuses_121 : decode cL_refuses 121 = .ok (.iload 8, 2) := by decide +kernel
theorem dL_refuses_123 : decode cL_refuses 123 = .ok (.iconst 1, 1) := by decide +kernel
theorem dL_refuses_124 : decode cL_refuses 124 = .ok (.if_icmp .ne 7, 3) := by decide +kernel
theorem dL_refuses_127 : decode cL_refuses 127 = .ok (.iconst 4, 1) := by decide +kernel
theorem dL_refuses_128 : decode cL_refuses 128 = .ok (.goto 5, 3) := by decide +kernel
theorem dL_refuses_131 : decode cL_refuses 131 = .ok (.iload 9, 2) := by decide +kernel
theorem dL_refuses_133 : decode cL_refuses 133 = .ok (.istore 14, 2) := by decide +kernel
theorem dL_refuses_135 : decode cL_refuses 135 = .ok (.iload 8, 2) := by decide +kernel
theorem dL_refuses_137 : decode cL_refuses 137 = .ok (.iconst 1, 1) := by decide +kernel
theorem dL_refuses_138 : decode cL_refuses 138 = .ok (.if_icmp .ne 8, 3) := by decide +kernel
theorem dL_refuses_141 : decode cL_refuses 141 = .ok (.bipush 100, 2) := by decide +kernel
theorem dL_refuses_143 : decode cL_refuses 143 = .ok (.goto 5, 3) := by decide +kernel
theorem dL_refuses_146 : decode cL_refuses 146 = .ok (.iload 9, 2) := by decide +kernel
theorem dL_refuses_148 : decode cL_refuses 148 = .ok (.istore 15, 2) := by decide +kernel
theorem dL_refuses_150 : decode cL_refuses 150 = .ok (.iload 8, 2) := by decide +kernel
theorem dL_refuses_152 : decode cL_refuses 152 = .ok (.iconst 1, 1) := by decide +kernel
theorem dL_refuses_153 : decode cL_refuses 153 = .ok (.if_icmp .ne 8, 3) := by decide +kernel
theorem dL_refuses_156 : decode cL_refuses 156 = .ok (.bipush 16, 2) := by decide +kernel
theorem dL_refuses_158 : decode cL_refuses 158 = .ok (.goto 5, 3) := by decide +kernel
theorem dL_refuses_161 : decode cL_refuses 161 = .ok (.iload 9, 2) := by decide +kernel
theorem dL_refuses_163 : decode cL_refuses 163 = .ok (.istore 16, 2) := by decide +kernel
theorem dL_refuses_165 : decode cL_refuses 165 = .ok (.iload 8, 2) := by decide +kernel
theorem dL_refuses_167 : decode cL_refuses 167 = .ok (.iconst 1, 1) := by decide +kernel
theorem dL_refuses_168 : decode cL_refuses 168 = .ok (.if_icmp .ne 8, 3) := by decide +kernel
theorem dL_refuses_171 : decode cL_refuses 171 = .ok (.bipush 10, 2) := by decide +kernel
theorem dL_refuses_173 : decode cL_refuses 173 = .ok (.goto 5, 3) := by decide +kernel
theorem dL_refuses_176 : decode cL_refuses 176 = .ok (.iload 9, 2) := by decide +kernel
theorem dL_refuses_178 : decode cL_refuses 178 = .ok (.istore 17, 2) := by decide +kernel
theorem dL_refuses_180 : decode cL_refuses 180 = .ok (.iload 8, 2) := by decide +kernel
theorem dL_refuses_182 : decode cL_refuses 182 = .ok (.iconst 1, 1) := by decide +kernel
theorem dL_refuses_183 : decode cL_refuses 183 = .ok (.if_icmp .ne 7, 3) := by decide +kernel
theorem dL_refuses_186 : decode cL_refuses 186 = .ok (.iload_n 1, 1) := by decide +kernel
theorem dL_refuses_187 : decode cL_refuses 187 = .ok (.goto 5, 3) := by decide +kernel
theorem dL_refuses_190 : decode cL_refuses 190 = .ok (.iload 9, 2) := by decide +kernel
theorem dL_refuses_192 : decode cL_refuses 192 = .ok (.istore 18, 2) := by decide +kernel
theorem dL_refuses_194 : decode cL_refuses 194 = .ok (.aload_n 0, 1) := by decide +kernel
theorem dL_refuses_195 : decode cL_refuses 195 = .ok (.iload 13, 2) := by decide +kernel
theorem dL_refuses_197 : decode cL_refuses 197 = .ok (.iconst (-1), 1) := by decide +kernel
theorem dL_refuses_198 : decode cL_refuses 198 = .ok (.iconst 0, 1) := by decide +kernel
theorem dL_refuses_199 : decode cL_refuses 199 = .ok (.invokestatic 92, 3) := by decide +kernel
theorem dL_refuses_202 : decode cL_refuses 202 = .ok (.bipush (-71), 2) := by decide +kernel
theorem dL_refuses_204 : decode cL_refuses 204 = .ok (.if_icmp .ne 291, 3) := by decide +kernel
theorem dL_refuses_207 : decode cL_refuses 207 = .ok (.aload_n 0, 1) := by decide +kernel
theorem dL_refuses_208 : decode cL_refuses 208 = .ok (.iconst 0, 1) := by decide +kernel
theorem dL_refuses_209 : decode cL_refuses 209 = .ok (.iload 16, 2) := by decide +kernel
theorem dL_refuses_211 : decode cL_refuses 211 = .ok (.iconst 0, 1) := by decide +kernel
theorem dL_refuses_212 : decode cL_refuses 212 = .ok (.invokestatic 92, 3) := by decide +kernel
theorem dL_refuses_215 : decode cL_refuses 215 = .ok (.bipush (-72), 2) := by decide +kernel
theorem dL_refuses_217 : decode cL_refuses 217 = .ok (.if_icmp .ne 278, 3) := by decide +kernel
theorem dL_refuses_220 : decode cL_refuses 220 = .ok (.aload_n 0, 1) := by decide +kernel
theorem dL_refuses_221 : decode cL_refuses 221 = .ok (.iconst 0, 1) := by decide +kernel
theorem dL_refuses_222 : decode cL_refuses 222 = .ok (.iconst 0, 1) := by decide +kernel
theorem dL_refuses_223 : decode cL_refuses 223 = .ok (.iload 16, 2) := by decide +kernel
theorem dL_refuses_225 : decode cL_refuses 225 = .ok (.invokestatic 92, 3) := by decide +kernel
theorem dL_refuses_228 : decode cL_refuses 228 = .ok (.bipush (-72), 2) := by decide +kernel
theorem dL_refuses_230 : decode cL_refuses 230 = .ok (.if_icmp .ne 265, 3) := by decide +kernel
theorem dL_refuses_233 : decode cL_refuses 233 = .ok (.aload_n 0, 1) := by decide +kernel
theorem dL_refuses_234 : decode cL_refuses 234 = .ok (.iconst 0, 1) := by decide +kernel
theorem dL_refuses_235 : decode cL_refuses 235 = .ok (.iload 11, 2) := by decide +kernel
theorem dL_refuses_237 : decode cL_refuses 237 = .ok (.iconst 0, 1) := by decide +kernel
theorem dL_refuses_238 : decode cL_refuses 238 = .ok (.iconst (-1), 1) := by decide +kernel
theorem dL_refuses_239 : decode cL_refuses 239 = .ok (.iconst 0, 1) := by decide +kernel
theorem dL_refuses_240 : decode cL_refuses 240 = .ok (.invokestatic 98, 3) := by decide +kernel
theorem dL_refuses_243 : decode cL_refuses 243 = .ok (.bipush (-71), 2) := by decide +kernel
theorem dL_refuses_245 : decode cL_refuses 245 = .ok (.if_icmp .ne 250, 3) := by decide +kernel
theorem dL_refuses_248 : decode cL_refuses 248 = .ok (.aload_n 0, 1) := by decide +kernel
theorem dL_refuses_249 : decode cL_refuses 249 = .ok (.iconst 0, 1) := by decide +kernel
theorem dL_refuses_250 : decode cL_refuses 250 = .ok (.iconst 0, 1) := by decide +kernel
theorem dL_refuses_251 : decode cL_refuses 251 = .ok (.iload 12, 2) := by decide +kernel
theorem dL_refuses_253 : decode cL_refuses 253 = .ok (.iconst (-1), 1) := by decide +kernel
theorem dL_refuses_254 : decode cL_refuses 254 = .ok (.iconst 0, 1) := by decide +kernel
theorem dL_refuses_255 : decode cL_refuses 255 = .ok (.invokestatic 98, 3) := by decide +kernel
theorem dL_refuses_258 : decode cL_refuses 258 = .ok (.bipush (-71), 2) := by decide +kernel
theorem dL_refuses_260 : decode cL_refuses 260 = .ok (.if_icmp .ne 235, 3) := by decide +kernel
theorem dL_refuses_263 : decode cL_refuses 263 = .ok (.aload_n 0, 1) := by decide +kernel
theorem dL_refuses_264 : decode cL_refuses 264 = .ok (.iconst 0, 1) := by decide +kernel
theorem dL_refuses_265 : decode cL_refuses 265 = .ok (.iconst 0, 1) := by decide +kernel
theorem dL_refuses_266 : decode cL_refuses 266 = .ok (.iconst 0, 1) := by decide +kernel
theorem dL_refuses_267 : decode cL_refuses 267 = .ok (.iconst (-1), 1) := by decide +kernel
theorem dL_refuses_268 : decode cL_refuses 268 = .ok (.iload 13, 2) := by decide +kernel
theorem dL_refuses_270 : decode cL_refuses 270 = .ok (.invokestatic 98, 3) := by decide +kernel
theorem dL_refuses_273 : decode cL_refuses 273 = .ok (.bipush (-71), 2) := by decide +kernel
theorem dL_refuses_275 : decode cL_refuses 275 = .ok (.if_icmp .ne 220, 3) := by decide +kernel
theorem dL_refuses_278 : decode cL_refuses 278 = .ok (.aload_n 0, 1) := by decide +kernel
theorem dL_refuses_279 : decode cL_refuses 279 = .ok (.iconst 0, 1) := by decide +kernel
theorem dL_refuses_280 : decode cL_refuses 280 = .ok (.iconst 0, 1) := by decide +kernel
theorem dL_refuses_281 : decode cL_refuses 281 = .ok (.iconst 0, 1) := by decide +kernel
theorem dL_refuses_282 : decode cL_refuses 282 = .ok (.iload 15, 2) := by decide +kernel
theorem dL_refuses_284 : decode cL_refuses 284 = .ok (.iconst 0, 1) := by decide +kernel
theorem dL_refuses_285 : decode cL_refuses 285 = .ok (.invokestatic 98, 3) := by decide +kernel
theorem dL_refuses_288 : decode cL_refuses 288 = .ok (.bipush (-72), 2) := by decide +kernel
theorem dL_refuses_290 : decode cL_refuses 290 = .ok (.if_icmp .ne 205, 3) := by decide +kernel
theorem dL_refuses_293 : decode cL_refuses 293 = .ok (.aload_n 0, 1) := by decide +kernel
theorem dL_refuses_294 : decode cL_refuses 294 = .ok (.iconst 1, 1) := by decide +kernel
theorem dL_refuses_295 : decode cL_refuses 295 = .ok (.iload 11, 2) := by decide +kernel
theorem dL_refuses_297 : decode cL_refuses 297 = .ok (.iconst 0, 1) := by decide +kernel
theorem dL_refuses_298 : decode cL_refuses 298 = .ok (.iconst 0, 1) := by decide +kernel
theorem dL_refuses_299 : decode cL_refuses 299 = .ok (.bipush 99, 2) := by decide +kernel
theorem dL_refuses_301 : decode cL_refuses 301 = .ok (.invokestatic 98, 3) := by decide +kernel
theorem dL_refuses_304 : decode cL_refuses 304 = .ok (.bipush (-71), 2) := by decide +kernel
theorem dL_refuses_306 : decode cL_refuses 306 = .ok (.if_icmp .ne 189, 3) := by decide +kernel
theorem dL_refuses_309 : decode cL_refuses 309 = .ok (.aload_n 0, 1) := by decide +kernel
theorem dL_refuses_310 : decode cL_refuses 310 = .ok (.iconst 1, 1) := by decide +kernel
theorem dL_refuses_311 : decode cL_refuses 311 = .ok (.iconst 0, 1) := by decide +kernel
theorem dL_refuses_312 : decode cL_refuses 312 = .ok (.iload 12, 2) := by decide +kernel
theorem dL_refuses_314 : decode cL_refuses 314 = .ok (.iconst 0, 1) := by decide +kernel
theorem dL_refuses_315 : decode cL_refuses 315 = .ok (.bipush 99, 2) := by decide +kernel
theorem dL_refuses_317 : decode cL_refuses 317 = .ok (.invokestatic 98, 3) := by decide +kernel
theorem dL_refuses_320 : decode cL_refuses 320 = .ok (.bipush (-71), 2) := by decide +kernel
theorem dL_refuses_322 : decode cL_refuses 322 = .ok (.if_icmp .ne 173, 3) := by decide +kernel
theorem dL_refuses_325 : decode cL_refuses 325 = .ok (.aload_n 0, 1) := by decide +kernel
theorem dL_refuses_326 : decode cL_refuses 326 = .ok (.iconst 1, 1) := by decide +kernel
theorem dL_refuses_327 : decode cL_refuses 327 = .ok (.iconst 0, 1) := by decide +kernel
theorem dL_refuses_328 : decode cL_refuses 328 = .ok (.iconst 0, 1) := by decide +kernel
theorem dL_refuses_329 : decode cL_refuses 329 = .ok (.iload 14, 2) := by decide +kernel
theorem dL_refuses_331 : decode cL_refuses 331 = .ok (.bipush 99, 2) := by decide +kernel
theorem dL_refuses_333 : decode cL_refuses 333 = .ok (.invokestatic 98, 3) := by decide +kernel
theorem dL_refuses_336 : decode cL_refuses 336 = .ok (.bipush (-71), 2) := by decide +kernel
end
section
theorem dL_refuses_338 : decode cL_refuses 338 = .ok (.if_icmp .ne 157, 3) := by decide +kernel
theorem dL_refuses_341 : decode cL_refuses 341 = .ok (.aload_n 0, 1) := by decide +kernel
theorem dL_refuses_342 : decode cL_refuses 342 = .ok (.iconst 1, 1) := by decide +kernel
theorem dL_refuses_343 : decode cL_refuses 343 = .ok (.iconst 0, 1) := by decide +kernel
theorem dL_refuses_344 : decode cL_refuses 344 = .ok (.iconst 0, 1) := by decide +kernel
theorem dL_refuses_345 : decode cL_refuses 345 = .ok (.iconst 0, 1) := by decide +kernel
theorem dL_refuses_346 : decode cL_refuses 346 = .ok (.iload 8, 2) := by decide +kernel
theorem dL_refuses_348 : decode cL_refuses 348 = .ok (.iconst 1, 1) := by decide +kernel
theorem dL_refuses_349 : decode cL_refuses 349 = .ok (.if_icmp .ne 8, 3) := by decide +kernel
theorem dL_refuses_352 : decode cL_refuses 352 = .ok (.bipush 10, 2) := by decide +kernel
theorem dL_refuses_354 : decode cL_refuses 354 = .ok (.goto 5, 3) := by decide +kernel
theorem dL_refuses_357 : decode cL_refuses 357 = .ok (.iload 10, 2) := by decide +kernel
theorem dL_refuses_359 : decode cL_refuses 359 = .ok (.invokestatic 98, 3) := by decide +kernel
theorem dL_refuses_362 : decode cL_refuses 362 = .ok (.bipush (-72), 2) := by decide +kernel
theorem dL_refuses_364 : decode cL_refuses 364 = .ok (.if_icmp .ne 131, 3) := by decide +kernel
theorem dL_refuses_367 : decode cL_refuses 367 = .ok (.aload_n 0, 1) := by decide +kernel
theorem dL_refuses_368 : decode cL_refuses 368 = .ok (.iconst 2, 1) := by decide +kernel
theorem dL_refuses_369 : decode cL_refuses 369 = .ok (.iload 11, 2) := by decide +kernel
theorem dL_refuses_371 : decode cL_refuses 371 = .ok (.iconst 0, 1) := by decide +kernel
theorem dL_refuses_372 : decode cL_refuses 372 = .ok (.iconst 0, 1) := by decide +kernel
theorem dL_refuses_373 : decode cL_refuses 373 = .ok (.iconst (-1), 1) := by decide +kernel
theorem dL_refuses_374 : decode cL_refuses 374 = .ok (.invokestatic 98, 3) := by decide +kernel
theorem dL_refuses_377 : decode cL_refuses 377 = .ok (.bipush (-71), 2) := by decide +kernel
theorem dL_refuses_379 : decode cL_refuses 379 = .ok (.if_icmp .ne 116, 3) := by decide +kernel
theorem dL_refuses_382 : decode cL_refuses 382 = .ok (.aload_n 0, 1) := by decide +kernel
theorem dL_refuses_383 : decode cL_refuses 383 = .ok (.iconst 2, 1) := by decide +kernel
theorem dL_refuses_384 : decode cL_refuses 384 = .ok (.iconst 0, 1) := by decide +kernel
theorem dL_refuses_385 : decode cL_refuses 385 = .ok (.iload 12, 2) := by decide +kernel
theorem dL_refuses_387 : decode cL_refuses 387 = .ok (.iconst 0, 1) := by decide +kernel
theorem dL_refuses_388 : decode cL_refuses 388 = .ok (.iconst (-1), 1) := by decide +kernel
theorem dL_refuses_389 : decode cL_refuses 389 = .ok (.invokestatic 98, 3) := by decide +kernel
theorem dL_refuses_392 : decode cL_refuses 392 = .ok (.bipush (-71), 2) := by decide +kernel
theorem dL_refuses_394 : decode cL_refuses 394 = .ok (.if_icmp .ne 101, 3) := by decide +kernel
theorem dL_refuses_397 : decode cL_refuses 397 = .ok (.aload_n 0, 1) := by decide +kernel
theorem dL_refuses_398 : decode cL_refuses 398 = .ok (.iconst 2, 1) := by decide +kernel
theorem dL_refuses_399 : decode cL_refuses 399 = .ok (.iconst 0, 1) := by decide +kernel
theorem dL_refuses_400 : decode cL_refuses 400 = .ok (.iconst 0, 1) := by decide +kernel
theorem dL_refuses_401 : decode cL_refuses 401 = .ok (.iload 12, 2) := by decide +kernel
theorem dL_refuses_403 : decode cL_refuses 403 = .ok (.iconst (-1), 1) := by decide +kernel
theorem dL_refuses_404 : decode cL_refuses 404 = .ok (.invokestatic 98, 3) := by decide +kernel
theorem dL_refuses_407 : decode cL_refuses 407 = .ok (.bipush (-71), 2) := by decide +kernel
theorem dL_refuses_409 : decode cL_refuses 409 = .ok (.if_icmp .ne 86, 3) := by decide +kernel
theorem dL_refuses_412 : decode cL_refuses 412 = .ok (.aload_n 0, 1) := by decide +kernel
theorem dL_refuses_413 : decode cL_refuses 413 = .ok (.iconst 2, 1) := by decide +kernel
theorem dL_refuses_414 : decode cL_refuses 414 = .ok (.iconst 0, 1) := by decide +kernel
theorem dL_refuses_415 : decode cL_refuses 415 = .ok (.iconst 0, 1) := by decide +kernel
theorem dL_refuses_416 : decode cL_refuses 416 = .ok (.iconst 0, 1) := by decide +kernel
theorem dL_refuses_417 : decode cL_refuses 417 = .ok (.iload 15, 2) := by decide +kernel
theorem dL_refuses_419 : decode cL_refuses 419 = .ok (.invokestatic 98, 3) := by decide +kernel
theorem dL_refuses_422 : decode cL_refuses 422 = .ok (.bipush (-72), 2) := by decide +kernel
theorem dL_refuses_424 : decode cL_refuses 424 = .ok (.if_icmp .ne 71, 3) := by decide +kernel
theorem dL_refuses_427 : decode cL_refuses 427 = .ok (.aload_n 0, 1) := by decide +kernel
theorem dL_refuses_428 : decode cL_refuses 428 = .ok (.iconst 2, 1) := by decide +kernel
theorem dL_refuses_429 : decode cL_refuses 429 = .ok (.iconst 0, 1) := by decide +kernel
theorem dL_refuses_430 : decode cL_refuses 430 = .ok (.iload 8, 2) := by decide +kernel
theorem dL_refuses_432 : decode cL_refuses 432 = .ok (.iconst 2, 1) := by decide +kernel
theorem dL_refuses_433 : decode cL_refuses 433 = .ok (.irem, 1) := by decide +kernel
theorem dL_refuses_434 : decode cL_refuses 434 = .ok (.iconst 0, 1) := by decide +kernel
theorem dL_refuses_435 : decode cL_refuses 435 = .ok (.iconst 5, 1) := by decide +kernel
theorem dL_refuses_436 : decode cL_refuses 436 = .ok (.invokestatic 98, 3) := by decide +kernel
theorem dL_refuses_439 : decode cL_refuses 439 = .ok (.bipush (-73), 2) := by decide +kernel
theorem dL_refuses_441 : decode cL_refuses 441 = .ok (.if_icmp .ne 54, 3) := by decide +kernel
theorem dL_refuses_444 : decode cL_refuses 444 = .ok (.aload_n 0, 1) := by decide +kernel
theorem dL_refuses_445 : decode cL_refuses 445 = .ok (.iconst 3, 1) := by decide +kernel
theorem dL_refuses_446 : decode cL_refuses 446 = .ok (.iload 11, 2) := by decide +kernel
theorem dL_refuses_448 : decode cL_refuses 448 = .ok (.iconst 0, 1) := by decide +kernel
theorem dL_refuses_449 : decode cL_refuses 449 = .ok (.iconst 0, 1) := by decide +kernel
theorem dL_refuses_450 : decode cL_refuses 450 = .ok (.iconst 0, 1) := by decide +kernel
theorem dL_refuses_451 : decode cL_refuses 451 = .ok (.invokestatic 98, 3) := by decide +kernel
theorem dL_refuses_454 : decode cL_refuses 454 = .ok (.bipush (-71), 2) := by decide +kernel
theorem dL_refuses_456 : decode cL_refuses 456 = .ok (.if_icmp .ne 39, 3) := by decide +kernel
theorem dL_refuses_459 : decode cL_refuses 459 = .ok (.aload_n 0, 1) := by decide +kernel
theorem dL_refuses_460 : decode cL_refuses 460 = .ok (.iconst 3, 1) := by decide +kernel
theorem dL_refuses_461 : decode cL_refuses 461 = .ok (.iconst 0, 1) := by decide +kernel
theorem dL_refuses_462 : decode cL_refuses 462 = .ok (.iload 12, 2) := by decide +kernel
theorem dL_refuses_464 : decode cL_refuses 464 = .ok (.iconst 0, 1) := by decide +kernel
theorem dL_refuses_465 : decode cL_refuses 465 = .ok (.iconst 0, 1) := by decide +kernel
theorem dL_refuses_466 : decode cL_refuses 466 = .ok (.invokestatic 98, 3) := by decide +kernel
theorem dL_refuses_469 : decode cL_refuses 469 = .ok (.bipush (-71), 2) := by decide +kernel
theorem dL_refuses_471 : decode cL_refuses 471 = .ok (.if_icmp .ne 24, 3) := by decide +kernel
theorem dL_refuses_474 : decode cL_refuses 474 = .ok (.aload_n 0, 1) := by decide +kernel
theorem dL_refuses_475 : decode cL_refuses 475 = .ok (.iconst 3, 1) := by decide +kernel
theorem dL_refuses_476 : decode cL_refuses 476 = .ok (.iconst 0, 1) := by decide +kernel
theorem dL_refuses_477 : decode cL_refuses 477 = .ok (.iload 8, 2) := by decide +kernel
theorem dL_refuses_479 : decode cL_refuses 479 = .ok (.iconst 2, 1) := by decide +kernel
theorem dL_refuses_480 : decode cL_refuses 480 = .ok (.irem, 1) := by decide +kernel
theorem dL_refuses_481 : decode cL_refuses 481 = .ok (.iconst 0, 1) := by decide +kernel
theorem dL_refuses_482 : decode cL_refuses 482 = .ok (.iconst 0, 1) := by decide +kernel
theorem dL_refuses_483 : decode cL_refuses 483 = .ok (.invokestatic 98, 3) := by decide +kernel
theorem dL_refuses_486 : decode cL_refuses 486 = .ok (.bipush (-73), 2) := by decide +kernel
theorem dL_refuses_488 : decode cL_refuses 488 = .ok (.if_icmp .ne 7, 3) := by decide +kernel
theorem dL_refuses_491 : decode cL_refuses 491 = .ok (.iconst 1, 1) := by decide +kernel
theorem dL_refuses_492 : decode cL_refuses 492 = .ok (.goto 4, 3) := by decide +kernel
theorem dL_refuses_495 : decode cL_refuses 495 = .ok (.iconst 0, 1) := by decide +kernel
theorem dL_refuses_496 : decode cL_refuses 496 = .ok (.istore 19, 2) := by decide +kernel
theorem dL_refuses_498 : decode cL_refuses 498 = .ok (.iload 19, 2) := by decide +kernel
theorem dL_refuses_500 : decode cL_refuses 500 = .ok (.ifCond .eq 293, 3) := by decide +kernel
theorem dL_refuses_503 : decode cL_refuses 503 = .ok (.aload_n 0, 1) := by decide +kernel
theorem dL_refuses_504 : decode cL_refuses 504 = .ok (.iconst 4, 1) := by decide +kernel
theorem dL_refuses_505 : decode cL_refuses 505 = .ok (.iload 8, 2) := by decide +kernel
theorem dL_refuses_507 : decode cL_refuses 507 = .ok (.iconst 1, 1) := by decide +kernel
theorem dL_refuses_508 : decode cL_refuses 508 = .ok (.if_icmp .ne 7, 3) := by decide +kernel
theorem dL_refuses_511 : decode cL_refuses 511 = .ok (.iload_n 3, 1) := by decide +kernel
theorem dL_refuses_512 : decode cL_refuses 512 = .ok (.goto 5, 3) := by decide +kernel
theorem dL_refuses_515 : decode cL_refuses 515 = .ok (.iload 9, 2) := by decide +kernel
theorem dL_refuses_517 : decode cL_refuses 517 = .ok (.iconst 0, 1) := by decide +kernel
theorem dL_refuses_518 : decode cL_refuses 518 = .ok (.iconst 0, 1) := by decide +kernel
theorem dL_refuses_519 : decode cL_refuses 519 = .ok (.iconst 0, 1) := by decide +kernel
theorem dL_refuses_520 : decode cL_refuses 520 = .ok (.invokestatic 98, 3) := by decide +kernel
theorem dL_refuses_523 : decode cL_refuses 523 = .ok (.bipush (-71), 2) := by decide +kernel
theorem dL_refuses_525 : decode cL_refuses 525 = .ok (.if_icmp .ne 268, 3) := by decide +kernel
theorem dL_refuses_528 : decode cL_refuses 528 = .ok (.aload_n 0, 1) := by decide +kernel
theorem dL_refuses_529 : decode cL_refuses 529 = .ok (.iconst 4, 1) := by decide +kernel
theorem dL_refuses_530 : decode cL_refuses 530 = .ok (.iconst 0, 1) := by decide +kernel
theorem dL_refuses_531 : decode cL_refuses 531 = .ok (.iload 11, 2) := by decide +kernel
theorem dL_refuses_533 : decode cL_refuses 533 = .ok (.iconst 0, 1) := by decide +kernel
theorem dL_refuses_534 : decode cL_refuses 534 = .ok (.iconst 0, 1) := by decide +kernel
theorem dL_refuses_535 : decode cL_refuses 535 = .ok (.invokestatic 98, 3) := by decide +kernel
theorem dL_refuses_538 : decode cL_refuses 538 = .ok (.bipush (-71), 2) := by decide +kernel
theorem dL_refuses_540 : decode cL_refuses 540 = .ok (.if_icmp .ne 253, 3) := by decide +kernel
theorem dL_refuses_543 : decode cL_refuses 543 = .ok (.aload_n 0, 1) := by decide +kernel
theorem dL_refuses_544 : decode cL_refuses 544 = .ok (.iconst 5, 1) := by decide +kernel
theorem dL_refuses_545 : decode cL_refuses 545 = .ok (.iload 8, 2) := by decide +kernel
theorem dL_refuses_547 : decode cL_refuses 547 = .ok (.iconst 1, 1) := by decide +kernel
theorem dL_refuses_548 : decode cL_refuses 548 = .ok (.if_icmp .ne 7, 3) := by decide +kernel
theorem dL_refuses_551 : decode cL_refuses 551 = .ok (.iload_n 3, 1) := by decide +kernel
theorem dL_refuses_552 : decode cL_refuses 552 = .ok (.goto 5, 3) := by decide +kernel
theorem dL_refuses_555 : decode cL_refuses 555 = .ok (.iload 9, 2) := by decide +kernel
theorem dL_refuses_557 : decode cL_refuses 557 = .ok (.iconst 0, 1) := by decide +kernel
theorem dL_refuses_558 : decode cL_refuses 558 = .ok (.iconst 0, 1) := by decide +kernel
theorem dL_refuses_559 : decode cL_refuses 559 = .ok (.iconst 0, 1) := by decide +kernel
theorem dL_refuses_560 : decode cL_refuses 560 = .ok (.invokestatic 98, 3) := by decide +kernel
theorem dL_refuses_563 : decode cL_refuses 563 = .ok (.bipush (-71), 2) := by decide +kernel
theorem dL_refuses_565 : decode cL_refuses 565 = .ok (.if_icmp .ne 228, 3) := by decide +kernel
theorem dL_refuses_568 : decode cL_refuses 568 = .ok (.aload_n 0, 1) := by decide +kernel
theorem dL_refuses_569 : decode cL_refuses 569 = .ok (.bipush 6, 2) := by decide +kernel
theorem dL_refuses_571 : decode cL_refuses 571 = .ok (.iload 11, 2) := by decide +kernel
theorem dL_refuses_573 : decode cL_refuses 573 = .ok (.iconst 0, 1) := by decide +kernel
theorem dL_refuses_574 : decode cL_refuses 574 = .ok (.iconst 0, 1) := by decide +kernel
theorem dL_refuses_575 : decode cL_refuses 575 = .ok (.iconst 0, 1) := by decide +kernel
theorem dL_refuses_576 : decode cL_refuses 576 = .ok (.invokestatic 98, 3) := by decide +kernel
theorem dL_refuses_579 : decode cL_refuses 579 = .ok (.bipush (-71), 2) := by decide +kernel
theorem dL_refuses_581 : decode cL_refuses 581 = .ok (.if_icmp .ne 212, 3) := by decide +kernel
theorem dL_refuses_584 : decode cL_refuses 584 = .ok (.aload_n 0, 1) := by decide +kernel
theorem dL_refuses_585 : decode cL_refuses 585 = .ok (.bipush 7, 2) := by decide +kernel
theorem dL_refuses_587 : decode cL_refuses 587 = .ok (.iload 11, 2) := by decide +kernel
theorem dL_refuses_589 : decode cL_refuses 589 = .ok (.iconst 0, 1) := by decide +kernel
theorem dL_refuses_590 : decode cL_refuses 590 = .ok (.iconst 0, 1) := by decide +kernel
theorem dL_refuses_591 : decode cL_refuses 591 = .ok (.iconst 0, 1) := by decide +kernel
theorem dL_refuses_592 : decode cL_refuses 592 = .ok (.invokestatic 98, 3) := by decide +kernel
theorem dL_refuses_595 : decode cL_refuses 595 = .ok (.bipush (-71), 2) := by decide +kernel
theorem dL_refuses_597 : decode cL_refuses 597 = .ok (.if_icmp .ne 196, 3) := by decide +kernel
theorem dL_refuses_600 : decode cL_refuses 600 = .ok (.aload_n 0, 1) := by decide +kernel
theorem dL_refuses_601 : decode cL_refuses 601 = .ok (.iconst 0, 1) := by decide +kernel
theorem dL_refuses_602 : decode cL_refuses 602 = .ok (.iload 12, 2) := by decide +kernel
theorem dL_refuses_604 : decode cL_refuses 604 = .ok (.invokevirtual 51, 3) := by decide +kernel
theorem dL_refuses_607 : decode cL_refuses 607 = .ok (.ifCond .ne 186, 3) := by decide +kernel
theorem dL_refuses_610 : decode cL_refuses 610 = .ok (.aload_n 0, 1) := by decide +kernel
theorem dL_refuses_611 : decode cL_refuses 611 = .ok (.bipush 10, 2) := by decide +kernel
theorem dL_refuses_613 : decode cL_refuses 613 = .ok (.iconst 0, 1) := by decide +kernel
theorem dL_refuses_614 : decode cL_refuses 614 = .ok (.iconst 0, 1) := by decide +kernel
theorem dL_refuses_615 : decode cL_refuses 615 = .ok (.iload 14, 2) := by decide +kernel
theorem dL_refuses_617 : decode cL_refuses 617 = .ok (.iconst 0, 1) := by decide +kernel
theorem dL_refuses_618 : decode cL_refuses 618 = .ok (.invokestatic 98, 3) := by decide +kernel
theorem dL_refuses_621 : decode cL_refuses 621 = .ok (.bipush (-71), 2) := by decide +kernel
theorem dL_refuses_623 : decode cL_refuses 623 = .ok (.if_icmp .ne 170, 3) := by decide +kernel
theorem dL_refuses_626 : decode cL_refuses 626 = .ok (.aload_n 0, 1) := by decide +kernel
theorem dL_refuses_627 : decode cL_refuses 627 = .ok (.bipush 12, 2) := by decide +kernel
theorem dL_refuses_629 : decode cL_refuses 629 = .ok (.iconst 0, 1) := by decide +kernel
theorem dL_refuses_630 : decode cL_refuses 630 = .ok (.iload 12, 2) := by decide +kernel
theorem dL_refuses_632 : decode cL_refuses 632 = .ok (.iconst (-1), 1) := by decide +kernel
theorem dL_refuses_633 : decode cL_refuses 633 = .ok (.iconst 0, 1) := by decide +kernel
theorem dL_refuses_634 : decode cL_refuses 634 = .ok (.invokestatic 98, 3) := by decide +kernel
theorem dL_refuses_637 : decode cL_refuses 637 = .ok (.bipush (-71), 2) := by decide +kernel
theorem dL_refuses_639 : decode cL_refuses 639 = .ok (.if_icmp .ne 154, 3) := by decide +kernel
theorem dL_refuses_642 : decode cL_refuses 642 = .ok (.aload_n 0, 1) := by decide +kernel
theorem dL_refuses_643 : decode cL_refuses 643 = .ok (.bipush 12, 2) := by decide +kernel
theorem dL_refuses_645 : decode cL_refuses 645 = .ok (.iconst 0, 1) := by decide +kernel
theorem dL_refuses_646 : decode cL_refuses 646 = .ok (.iconst 0, 1) := by decide +kernel
theorem dL_refuses_647 : decode cL_refuses 647 = .ok (.iload 15, 2) := by decide +kernel
end
section
theorem dL_refuses_649 : decode cL_refuses 649 = .ok (.iconst 0, 1) := by decide +kernel
theorem dL_refuses_650 : decode cL_refuses 650 = .ok (.invokestatic 98, 3) := by decide +kernel
theorem dL_refuses_653 : decode cL_refuses 653 = .ok (.bipush (-72), 2) := by decide +kernel
theorem dL_refuses_655 : decode cL_refuses 655 = .ok (.if_icmp .ne 138, 3) := by decide +kernel
theorem dL_refuses_658 : decode cL_refuses 658 = .ok (.aload_n 0, 1) := by decide +kernel
theorem dL_refuses_659 : decode cL_refuses 659 = .ok (.iload 13, 2) := by decide +kernel
theorem dL_refuses_661 : decode cL_refuses 661 = .ok (.iconst 0, 1) := by decide +kernel
theorem dL_refuses_662 : decode cL_refuses 662 = .ok (.iconst 5, 1) := by decide +kernel
theorem dL_refuses_663 : decode cL_refuses 663 = .ok (.invokestatic 102, 3) := by decide +kernel
theorem dL_refuses_666 : decode cL_refuses 666 = .ok (.bipush (-71), 2) := by decide +kernel
theorem dL_refuses_668 : decode cL_refuses 668 = .ok (.if_icmp .ne 125, 3) := by decide +kernel
theorem dL_refuses_671 : decode cL_refuses 671 = .ok (.aload_n 0, 1) := by decide +kernel
theorem dL_refuses_672 : decode cL_refuses 672 = .ok (.iconst 0, 1) := by decide +kernel
theorem dL_refuses_673 : decode cL_refuses 673 = .ok (.iload 8, 2) := by decide +kernel
theorem dL_refuses_675 : decode cL_refuses 675 = .ok (.iconst 1, 1) := by decide +kernel
theorem dL_refuses_676 : decode cL_refuses 676 = .ok (.if_icmp .ne 8, 3) := by decide +kernel
theorem dL_refuses_679 : decode cL_refuses 679 = .ok (.bipush 42, 2) := by decide +kernel
theorem dL_refuses_681 : decode cL_refuses 681 = .ok (.goto 5, 3) := by decide +kernel
theorem dL_refuses_684 : decode cL_refuses 684 = .ok (.iload 9, 2) := by decide +kernel
theorem dL_refuses_686 : decode cL_refuses 686 = .ok (.iconst 5, 1) := by decide +kernel
theorem dL_refuses_687 : decode cL_refuses 687 = .ok (.invokestatic 102, 3) := by decide +kernel
theorem dL_refuses_690 : decode cL_refuses 690 = .ok (.bipush (-71), 2) := by decide +kernel
theorem dL_refuses_692 : decode cL_refuses 692 = .ok (.if_icmp .ne 101, 3) := by decide +kernel
theorem dL_refuses_695 : decode cL_refuses 695 = .ok (.aload_n 0, 1) := by decide +kernel
theorem dL_refuses_696 : decode cL_refuses 696 = .ok (.iconst 0, 1) := by decide +kernel
theorem dL_refuses_697 : decode cL_refuses 697 = .ok (.iconst 0, 1) := by decide +kernel
theorem dL_refuses_698 : decode cL_refuses 698 = .ok (.iload 8, 2) := by decide +kernel
theorem dL_refuses_700 : decode cL_refuses 700 = .ok (.iconst 1, 1) := by decide +kernel
theorem dL_refuses_701 : decode cL_refuses 701 = .ok (.if_icmp .ne 7, 3) := by decide +kernel
theorem dL_refuses_704 : decode cL_refuses 704 = .ok (.iconst 2, 1) := by decide +kernel
theorem dL_refuses_705 : decode cL_refuses 705 = .ok (.goto 5, 3) := by decide +kernel
theorem dL_refuses_708 : decode cL_refuses 708 = .ok (.iload 10, 2) := by decide +kernel
theorem dL_refuses_710 : decode cL_refuses 710 = .ok (.invokestatic 102, 3) := by decide +kernel
theorem dL_refuses_713 : decode cL_refuses 713 = .ok (.bipush (-72), 2) := by decide +kernel
theorem dL_refuses_715 : decode cL_refuses 715 = .ok (.if_icmp .ne 78, 3) := by decide +kernel
theorem dL_refuses_718 : decode cL_refuses 718 = .ok (.aload_n 0, 1) := by decide +kernel
theorem dL_refuses_719 : decode cL_refuses 719 = .ok (.iload 8, 2) := by decide +kernel
theorem dL_refuses_721 : decode cL_refuses 721 = .ok (.iconst 1, 1) := by decide +kernel
theorem dL_refuses_722 : decode cL_refuses 722 = .ok (.if_icmp .ne 8, 3) := by decide +kernel
theorem dL_refuses_725 : decode cL_refuses 725 = .ok (.bipush 42, 2) := by decide +kernel
theorem dL_refuses_727 : decode cL_refuses 727 = .ok (.goto 5, 3) := by decide +kernel
theorem dL_refuses_730 : decode cL_refuses 730 = .ok (.iload 9, 2) := by decide +kernel
theorem dL_refuses_732 : decode cL_refuses 732 = .ok (.iconst 1, 1) := by decide +kernel
theorem dL_refuses_733 : decode cL_refuses 733 = .ok (.invokestatic 105, 3) := by decide +kernel
theorem dL_refuses_736 : decode cL_refuses 736 = .ok (.bipush (-71), 2) := by decide +kernel
theorem dL_refuses_738 : decode cL_refuses 738 = .ok (.if_icmp .ne 55, 3) := by decide +kernel
theorem dL_refuses_741 : decode cL_refuses 741 = .ok (.aload_n 0, 1) := by decide +kernel
theorem dL_refuses_742 : decode cL_refuses 742 = .ok (.bipush 13, 2) := by decide +kernel
theorem dL_refuses_744 : decode cL_refuses 744 = .ok (.iload 13, 2) := by decide +kernel
theorem dL_refuses_746 : decode cL_refuses 746 = .ok (.iconst 0, 1) := by decide +kernel
theorem dL_refuses_747 : decode cL_refuses 747 = .ok (.iconst 0, 1) := by decide +kernel
theorem dL_refuses_748 : decode cL_refuses 748 = .ok (.iconst 0, 1) := by decide +kernel
theorem dL_refuses_749 : decode cL_refuses 749 = .ok (.invokestatic 98, 3) := by decide +kernel
theorem dL_refuses_752 : decode cL_refuses 752 = .ok (.bipush (-72), 2) := by decide +kernel
theorem dL_refuses_754 : decode cL_refuses 754 = .ok (.if_icmp .ne 39, 3) := by decide +kernel
theorem dL_refuses_757 : decode cL_refuses 757 = .ok (.aload_n 0, 1) := by decide +kernel
theorem dL_refuses_758 : decode cL_refuses 758 = .ok (.bipush 13, 2) := by decide +kernel
theorem dL_refuses_760 : decode cL_refuses 760 = .ok (.iconst 0, 1) := by decide +kernel
theorem dL_refuses_761 : decode cL_refuses 761 = .ok (.iload 14, 2) := by decide +kernel
theorem dL_refuses_763 : decode cL_refuses 763 = .ok (.iconst 0, 1) := by decide +kernel
theorem dL_refuses_764 : decode cL_refuses 764 = .ok (.iconst 0, 1) := by decide +kernel
theorem dL_refuses_765 : decode cL_refuses 765 = .ok (.invokestatic 98, 3) := by decide +kernel
theorem dL_refuses_768 : decode cL_refuses 768 = .ok (.bipush (-72), 2) := by decide +kernel
theorem dL_refuses_770 : decode cL_refuses 770 = .ok (.if_icmp .ne 23, 3) := by decide +kernel
theorem dL_refuses_773 : decode cL_refuses 773 = .ok (.aload_n 0, 1) := by decide +kernel
theorem dL_refuses_774 : decode cL_refuses 774 = .ok (.bipush 13, 2) := by decide +kernel
theorem dL_refuses_776 : decode cL_refuses 776 = .ok (.iconst 0, 1) := by decide +kernel
theorem dL_refuses_777 : decode cL_refuses 777 = .ok (.iconst 0, 1) := by decide +kernel
theorem dL_refuses_778 : decode cL_refuses 778 = .ok (.iload 17, 2) := by decide +kernel
theorem dL_refuses_780 : decode cL_refuses 780 = .ok (.iconst 0, 1) := by decide +kernel
theorem dL_refuses_781 : decode cL_refuses 781 = .ok (.invokestatic 98, 3) := by decide +kernel
theorem dL_refuses_784 : decode cL_refuses 784 = .ok (.bipush (-72), 2) := by decide +kernel
theorem dL_refuses_786 : decode cL_refuses 786 = .ok (.if_icmp .ne 7, 3) := by decide +kernel
theorem dL_refuses_789 : decode cL_refuses 789 = .ok (.iconst 1, 1) := by decide +kernel
theorem dL_refuses_790 : decode cL_refuses 790 = .ok (.goto 4, 3) := by decide +kernel
theorem dL_refuses_793 : decode cL_refuses 793 = .ok (.iconst 0, 1) := by decide +kernel
theorem dL_refuses_794 : decode cL_refuses 794 = .ok (.istore 19, 2) := by decide +kernel
theorem dL_refuses_796 : decode cL_refuses 796 = .ok (.bipush 8, 2) := by decide +kernel
theorem dL_refuses_798 : decode cL_refuses 798 = .ok (.istore 20, 2) := by decide +kernel
theorem dL_refuses_800 : decode cL_refuses 800 = .ok (.iload 20, 2) := by decide +kernel
theorem dL_refuses_802 : decode cL_refuses 802 = .ok (.bipush 13, 2) := by decide +kernel
theorem dL_refuses_804 : decode cL_refuses 804 = .ok (.if_icmp .ge 53, 3) := by decide +kernel
theorem dL_refuses_807 : decode cL_refuses 807 = .ok (.iload 19, 2) := by decide +kernel
theorem dL_refuses_809 : decode cL_refuses 809 = .ok (.ifCond .eq 39, 3) := by decide +kernel
theorem dL_refuses_812 : decode cL_refuses 812 = .ok (.aload_n 0, 1) := by decide +kernel
theorem dL_refuses_813 : decode cL_refuses 813 = .ok (.iload 20, 2) := by decide +kernel
theorem dL_refuses_815 : decode cL_refuses 815 = .ok (.iload 11, 2) := by decide +kernel
theorem dL_refuses_817 : decode cL_refuses 817 = .ok (.iconst 0, 1) := by decide +kernel
theorem dL_refuses_818 : decode cL_refuses 818 = .ok (.iconst 0, 1) := by decide +kernel
theorem dL_refuses_819 : decode cL_refuses 819 = .ok (.iconst 0, 1) := by decide +kernel
theorem dL_refuses_820 : decode cL_refuses 820 = .ok (.invokestatic 98, 3) := by decide +kernel
theorem dL_refuses_823 : decode cL_refuses 823 = .ok (.bipush (-71), 2) := by decide +kernel
theorem dL_refuses_825 : decode cL_refuses 825 = .ok (.if_icmp .ne 23, 3) := by decide +kernel
theorem dL_refuses_828 : decode cL_refuses 828 = .ok (.aload_n 0, 1) := by decide +kernel
theorem dL_refuses_829 : decode cL_refuses 829 = .ok (.iload 20, 2) := by decide +kernel
theorem dL_refuses_831 : decode cL_refuses 831 = .ok (.iconst 0, 1) := by decide +kernel
theorem dL_refuses_832 : decode cL_refuses 832 = .ok (.iload 12, 2) := by decide +kernel
theorem dL_refuses_834 : decode cL_refuses 834 = .ok (.iconst 0, 1) := by decide +kernel
theorem dL_refuses_835 : decode cL_refuses 835 = .ok (.iconst 0, 1) := by decide +kernel
theorem dL_refuses_836 : decode cL_refuses 836 = .ok (.invokestatic 98, 3) := by decide +kernel
theorem dL_refuses_839 : decode cL_refuses 839 = .ok (.bipush (-71), 2) := by decide +kernel
theorem dL_refuses_841 : decode cL_refuses 841 = .ok (.if_icmp .ne 7, 3) := by decide +kernel
theorem dL_refuses_844 : decode cL_refuses 844 = .ok (.iconst 1, 1) := by decide +kernel
theorem dL_refuses_845 : decode cL_refuses 845 = .ok (.goto 4, 3) := by decide +kernel
theorem dL_refuses_848 : decode cL_refuses 848 = .ok (.iconst 0, 1) := by decide +kernel
theorem dL_refuses_849 : decode cL_refuses 849 = .ok (.istore 19, 2) := by decide +kernel
theorem dL_refuses_851 : decode cL_refuses 851 = .ok (.iinc 20 1, 3) := by decide +kernel
theorem dL_refuses_854 : decode cL_refuses 854 = .ok (.goto (-54), 3) := by decide +kernel
theorem dL_refuses_857 : decode cL_refuses 857 = .ok (.iload 19, 2) := by decide +kernel
theorem dL_refuses_859 : decode cL_refuses 859 = .ok (.ifCond .eq 243, 3) := by decide +kernel
theorem dL_refuses_862 : decode cL_refuses 862 = .ok (.aload_n 0, 1) := by decide +kernel
theorem dL_refuses_863 : decode cL_refuses 863 = .ok (.bipush 14, 2) := by decide +kernel
theorem dL_refuses_865 : decode cL_refuses 865 = .ok (.iconst 5, 1) := by decide +kernel
theorem dL_refuses_866 : decode cL_refuses 866 = .ok (.iload 18, 2) := by decide +kernel
theorem dL_refuses_868 : decode cL_refuses 868 = .ok (.iconst 0, 1) := by decide +kernel
theorem dL_refuses_869 : decode cL_refuses 869 = .ok (.iconst 0, 1) := by decide +kernel
theorem dL_refuses_870 : decode cL_refuses 870 = .ok (.invokestatic 98, 3) := by decide +kernel
theorem dL_refuses_873 : decode cL_refuses 873 = .ok (.bipush (-71), 2) := by decide +kernel
theorem dL_refuses_875 : decode cL_refuses 875 = .ok (.if_icmp .ne 227, 3) := by decide +kernel
theorem dL_refuses_878 : decode cL_refuses 878 = .ok (.aload_n 0, 1) := by decide +kernel
theorem dL_refuses_879 : decode cL_refuses 879 = .ok (.bipush 14, 2) := by decide +kernel
theorem dL_refuses_881 : decode cL_refuses 881 = .ok (.iconst 5, 1) := by decide +kernel
theorem dL_refuses_882 : decode cL_refuses 882 = .ok (.iconst 0, 1) := by decide +kernel
theorem dL_refuses_883 : decode cL_refuses 883 = .ok (.iload 18, 2) := by decide +kernel
theorem dL_refuses_885 : decode cL_refuses 885 = .ok (.iconst 0, 1) := by decide +kernel
theorem dL_refuses_886 : decode cL_refuses 886 = .ok (.invokestatic 98, 3) := by decide +kernel
theorem dL_refuses_889 : decode cL_refuses 889 = .ok (.bipush (-71), 2) := by decide +kernel
theorem dL_refuses_891 : decode cL_refuses 891 = .ok (.if_icmp .ne 211, 3) := by decide +kernel
theorem dL_refuses_894 : decode cL_refuses 894 = .ok (.aload_n 0, 1) := by decide +kernel
theorem dL_refuses_895 : decode cL_refuses 895 = .ok (.bipush 15, 2) := by decide +kernel
theorem dL_refuses_897 : decode cL_refuses 897 = .ok (.iconst 0, 1) := by decide +kernel
theorem dL_refuses_898 : decode cL_refuses 898 = .ok (.iload 18, 2) := by decide +kernel
theorem dL_refuses_900 : decode cL_refuses 900 = .ok (.iconst 0, 1) := by decide +kernel
theorem dL_refuses_901 : decode cL_refuses 901 = .ok (.iconst 0, 1) := by decide +kernel
theorem dL_refuses_902 : decode cL_refuses 902 = .ok (.invokestatic 98, 3) := by decide +kernel
theorem dL_refuses_905 : decode cL_refuses 905 = .ok (.bipush (-71), 2) := by decide +kernel
theorem dL_refuses_907 : decode cL_refuses 907 = .ok (.if_icmp .ne 195, 3) := by decide +kernel
theorem dL_refuses_910 : decode cL_refuses 910 = .ok (.aload_n 0, 1) := by decide +kernel
theorem dL_refuses_911 : decode cL_refuses 911 = .ok (.iconst 0, 1) := by decide +kernel
theorem dL_refuses_912 : decode cL_refuses 912 = .ok (.iconst 0, 1) := by decide +kernel
theorem dL_refuses_913 : decode cL_refuses 913 = .ok (.iconst 0, 1) := by decide +kernel
theorem dL_refuses_914 : decode cL_refuses 914 = .ok (.bipush 9, 2) := by decide +kernel
theorem dL_refuses_916 : decode cL_refuses 916 = .ok (.iload 18, 2) := by decide +kernel
theorem dL_refuses_918 : decode cL_refuses 918 = .ok (.iconst 0, 1) := by decide +kernel
theorem dL_refuses_919 : decode cL_refuses 919 = .ok (.invokestatic 108, 3) := by decide +kernel
theorem dL_refuses_922 : decode cL_refuses 922 = .ok (.bipush (-71), 2) := by decide +kernel
theorem dL_refuses_924 : decode cL_refuses 924 = .ok (.if_icmp .ne 178, 3) := by decide +kernel
theorem dL_refuses_927 : decode cL_refuses 927 = .ok (.iload_n 1, 1) := by decide +kernel
theorem dL_refuses_928 : decode cL_refuses 928 = .ok (.ifCond .eq 170, 3) := by decide +kernel
theorem dL_refuses_931 : decode cL_refuses 931 = .ok (.aload_n 0, 1) := by decide +kernel
theorem dL_refuses_932 : decode cL_refuses 932 = .ok (.bipush 14, 2) := by decide +kernel
theorem dL_refuses_934 : decode cL_refuses 934 = .ok (.iload 13, 2) := by decide +kernel
theorem dL_refuses_936 : decode cL_refuses 936 = .ok (.iconst 0, 1) := by decide +kernel
theorem dL_refuses_937 : decode cL_refuses 937 = .ok (.iconst 0, 1) := by decide +kernel
theorem dL_refuses_938 : decode cL_refuses 938 = .ok (.iconst 0, 1) := by decide +kernel
theorem dL_refuses_939 : decode cL_refuses 939 = .ok (.invokestatic 98, 3) := by decide +kernel
theorem dL_refuses_942 : decode cL_refuses 942 = .ok (.bipush (-72), 2) := by decide +kernel
theorem dL_refuses_944 : decode cL_refuses 944 = .ok (.if_icmp .ne 158, 3) := by decide +kernel
theorem dL_refuses_947 : decode cL_refuses 947 = .ok (.aload_n 0, 1) := by decide +kernel
theorem dL_refuses_948 : decode cL_refuses 948 = .ok (.bipush 15, 2) := by decide +kernel
theorem dL_refuses_950 : decode cL_refuses 950 = .ok (.iload 11, 2) := by decide +kernel
theorem dL_refuses_952 : decode cL_refuses 952 = .ok (.iconst 0, 1) := by decide +kernel
theorem dL_refuses_953 : decode cL_refuses 953 = .ok (.iconst 0, 1) := by decide +kernel
theorem dL_refuses_954 : decode cL_refuses 954 = .ok (.iconst 0, 1) := by decide +kernel
theorem dL_refuses_955 : decode cL_refuses 955 = .ok (.invokestatic 98, 3) := by decide +kernel
theorem dL_refuses_958 : decode cL_refuses 958 = .ok (.bipush (-71), 2) := by decide +kernel
theorem dL_refuses_960 : decode cL_refuses 960 = .ok (.if_icmp .ne 142, 3) := by decide +kernel
theorem dL_refuses_963 : decode cL_refuses 963 = .ok (.aload_n 0, 1) := by decide +kernel
theorem dL_refuses_964 : decode cL_refuses 964 = .ok (.bipush 15, 2) := by decide +kernel
theorem dL_refuses_966 : decode cL_refuses 966 = .ok (.iconst 0, 1) := by decide +kernel
theorem dL_refuses_967 : decode cL_refuses 967 = .ok (.iconst 0, 1) := by decide +kernel
theorem dL_refuses_968 : decode cL_refuses 968 = .ok (.iload 12, 2) := by decide +kernel
theorem dL_refuses_970 : decode cL_refuses 970 = .ok (.iconst 0, 1) := by decide +kernel
theorem dL_refuses_971 : decode cL_refuses 971 = .ok (.invokestatic 98, 3) := by decide +kernel
theorem dL_refuses_974 : decode cL_refuses 974 = .ok (.bipush (-71), 2) := by decide +kernel
theorem dL_refuses_976 : decode cL_refuses 976 = .ok (.if_icmp .ne 126, 3) := by decide +kernel
theorem dL_refuses_979 : decode cL_refuses 979 = .ok (.aload_n 0, 1) := by decide +kernel
theorem dL_refuses_980 : decode cL_refuses 980 = .ok (.iload 11, 2) := by decide +kernel
theorem dL_refuses_982 : decode cL_refuses 982 = .ok (.iconst 0, 1) := by decide +kernel
theorem dL_refuses_983 : decode cL_refuses 983 = .ok (.iconst 0, 1) := by decide +kernel
end
section
theorem dL_refuses_984 : decode cL_refuses 984 = .ok (.bipush 9, 2) := by decide +kernel
theorem dL_refuses_986 : decode cL_refuses 986 = .ok (.iconst 0, 1) := by decide +kernel
theorem dL_refuses_987 : decode cL_refuses 987 = .ok (.iconst 0, 1) := by decide +kernel
theorem dL_refuses_988 : decode cL_refuses 988 = .ok (.invokestatic 108, 3) := by decide +kernel
theorem dL_refuses_991 : decode cL_refuses 991 = .ok (.bipush (-71), 2) := by decide +kernel
theorem dL_refuses_993 : decode cL_refuses 993 = .ok (.if_icmp .ne 109, 3) := by decide +kernel
theorem dL_refuses_996 : decode cL_refuses 996 = .ok (.aload_n 0, 1) := by decide +kernel
theorem dL_refuses_997 : decode cL_refuses 997 = .ok (.iconst 0, 1) := by decide +kernel
theorem dL_refuses_998 : decode cL_refuses 998 = .ok (.iload 13, 2) := by decide +kernel
theorem dL_refuses_1000 : decode cL_refuses 1000 = .ok (.iconst 0, 1) := by decide +kernel
theorem dL_refuses_1001 : decode cL_refuses 1001 = .ok (.bipush 9, 2) := by decide +kernel
theorem dL_refuses_1003 : decode cL_refuses 1003 = .ok (.iconst 0, 1) := by decide +kernel
theorem dL_refuses_1004 : decode cL_refuses 1004 = .ok (.iconst 0, 1) := by decide +kernel
theorem dL_refuses_1005 : decode cL_refuses 1005 = .ok (.invokestatic 108, 3) := by decide +kernel
theorem dL_refuses_1008 : decode cL_refuses 1008 = .ok (.bipush (-71), 2) := by decide +kernel
theorem dL_refuses_1010 : decode cL_refuses 1010 = .ok (.if_icmp .ne 92, 3) := by decide +kernel
theorem dL_refuses_1013 : decode cL_refuses 1013 = .ok (.aload_n 0, 1) := by decide +kernel
theorem dL_refuses_1014 : decode cL_refuses 1014 = .ok (.iconst 0, 1) := by decide +kernel
theorem dL_refuses_1015 : decode cL_refuses 1015 = .ok (.iconst 0, 1) := by decide +kernel
theorem dL_refuses_1016 : decode cL_refuses 1016 = .ok (.iload 12, 2) := by decide +kernel
theorem dL_refuses_1018 : decode cL_refuses 1018 = .ok (.bipush 9, 2) := by decide +kernel
theorem dL_refuses_1020 : decode cL_refuses 1020 = .ok (.iconst 0, 1) := by decide +kernel
theorem dL_refuses_1021 : decode cL_refuses 1021 = .ok (.iconst 0, 1) := by decide +kernel
theorem dL_refuses_1022 : decode cL_refuses 1022 = .ok (.invokestatic 108, 3) := by decide +kernel
theorem dL_refuses_1025 : decode cL_refuses 1025 = .ok (.bipush (-71), 2) := by decide +kernel
theorem dL_refuses_1027 : decode cL_refuses 1027 = .ok (.if_icmp .ne 75, 3) := by decide +kernel
theorem dL_refuses_1030 : decode cL_refuses 1030 = .ok (.aload_n 0, 1) := by decide +kernel
theorem dL_refuses_1031 : decode cL_refuses 1031 = .ok (.iconst 0, 1) := by decide +kernel
theorem dL_refuses_1032 : decode cL_refuses 1032 = .ok (.iconst 0, 1) := by decide +kernel
theorem dL_refuses_1033 : decode cL_refuses 1033 = .ok (.iconst 0, 1) := by decide +kernel
theorem dL_refuses_1034 : decode cL_refuses 1034 = .ok (.bipush 9, 2) := by decide +kernel
theorem dL_refuses_1036 : decode cL_refuses 1036 = .ok (.iconst 0, 1) := by decide +kernel
theorem dL_refuses_1037 : decode cL_refuses 1037 = .ok (.iload 8, 2) := by decide +kernel
theorem dL_refuses_1039 : decode cL_refuses 1039 = .ok (.ifCond .ne 7, 3) := by decide +kernel
theorem dL_refuses_1042 : decode cL_refuses 1042 = .ok (.iconst (-1), 1) := by decide +kernel
theorem dL_refuses_1043 : decode cL_refuses 1043 = .ok (.goto 31, 3) := by decide +kernel
theorem dL_refuses_1046 : decode cL_refuses 1046 = .ok (.iload 8, 2) := by decide +kernel
theorem dL_refuses_1048 : decode cL_refuses 1048 = .ok (.iconst 1, 1) := by decide +kernel
theorem dL_refuses_1049 : decode cL_refuses 1049 = .ok (.if_icmp .ne 8, 3) := by decide +kernel
theorem dL_refuses_1052 : decode cL_refuses 1052 = .ok (.bipush (-7), 2) := by decide +kernel
theorem dL_refuses_1054 : decode cL_refuses 1054 = .ok (.goto 20, 3) := by decide +kernel
theorem dL_refuses_1057 : decode cL_refuses 1057 = .ok (.iload 8, 2) := by decide +kernel
theorem dL_refuses_1059 : decode cL_refuses 1059 = .ok (.iconst 2, 1) := by decide +kernel
theorem dL_refuses_1060 : decode cL_refuses 1060 = .ok (.if_icmp .ne 9, 3) := by decide +kernel
theorem dL_refuses_1063 : decode cL_refuses 1063 = .ok (.iload 7, 2) := by decide +kernel
theorem dL_refuses_1065 : decode cL_refuses 1065 = .ok (.ineg, 1) := by decide +kernel
theorem dL_refuses_1066 : decode cL_refuses 1066 = .ok (.goto 8, 3) := by decide +kernel
theorem dL_refuses_1069 : decode cL_refuses 1069 = .ok (.iload 7, 2) := by decide +kernel
theorem dL_refuses_1071 : decode cL_refuses 1071 = .ok (.ineg, 1) := by decide +kernel
theorem dL_refuses_1072 : decode cL_refuses 1072 = .ok (.iconst 1, 1) := by decide +kernel
theorem dL_refuses_1073 : decode cL_refuses 1073 = .ok (.isub, 1) := by decide +kernel
theorem dL_refuses_1074 : decode cL_refuses 1074 = .ok (.invokestatic 108, 3) := by decide +kernel
theorem dL_refuses_1077 : decode cL_refuses 1077 = .ok (.bipush (-71), 2) := by decide +kernel
theorem dL_refuses_1079 : decode cL_refuses 1079 = .ok (.if_icmp .ne 23, 3) := by decide +kernel
theorem dL_refuses_1082 : decode cL_refuses 1082 = .ok (.aload_n 0, 1) := by decide +kernel
theorem dL_refuses_1083 : decode cL_refuses 1083 = .ok (.iconst 0, 1) := by decide +kernel
theorem dL_refuses_1084 : decode cL_refuses 1084 = .ok (.iconst 0, 1) := by decide +kernel
theorem dL_refuses_1085 : decode cL_refuses 1085 = .ok (.iconst 0, 1) := by decide +kernel
theorem dL_refuses_1086 : decode cL_refuses 1086 = .ok (.iload 13, 2) := by decide +kernel
theorem dL_refuses_1088 : decode cL_refuses 1088 = .ok (.iconst 0, 1) := by decide +kernel
theorem dL_refuses_1089 : decode cL_refuses 1089 = .ok (.iconst 0, 1) := by decide +kernel
theorem dL_refuses_1090 : decode cL_refuses 1090 = .ok (.invokestatic 108, 3) := by decide +kernel
theorem dL_refuses_1093 : decode cL_refuses 1093 = .ok (.bipush (-72), 2) := by decide +kernel
theorem dL_refuses_1095 : decode cL_refuses 1095 = .ok (.if_icmp .ne 7, 3) := by decide +kernel
theorem dL_refuses_1098 : decode cL_refuses 1098 = .ok (.iconst 1, 1) := by decide +kernel
theorem dL_refuses_1099 : decode cL_refuses 1099 = .ok (.goto 4, 3) := by decide +kernel
theorem dL_refuses_1102 : decode cL_refuses 1102 = .ok (.iconst 0, 1) := by decide +kernel
theorem dL_refuses_1103 : decode cL_refuses 1103 = .ok (.istore 19, 2) := by decide +kernel
theorem dL_refuses_1105 : decode cL_refuses 1105 = .ok (.iload 19, 2) := by decide +kernel
theorem dL_refuses_1107 : decode cL_refuses 1107 = .ok (.ifCond .ne 5, 3) := by decide +kernel
theorem dL_refuses_1110 : decode cL_refuses 1110 = .ok (.iconst 0, 1) := by decide +kernel
theorem dL_refuses_1111 : decode cL_refuses 1111 = .ok (.ireturn, 1) := by decide +kernel
theorem dL_refuses_1112 : decode cL_refuses 1112 = .ok (.iinc 8 1, 3) := by decide +kernel
theorem dL_refuses_1115 : decode cL_refuses 1115 = .ok (.goto (-1083), 3) := by decide +kernel
theorem dL_refuses_1118 : decode cL_refuses 1118 = .ok (.aload_n 0, 1) := by decide +kernel
theorem dL_refuses_1119 : decode cL_refuses 1119 = .ok (.invokevirtual 83, 3) := by decide +kernel
theorem dL_refuses_1122 : decode cL_refuses 1122 = .ok (.iload_n 3, 1) := by decide +kernel
theorem dL_refuses_1123 : decode cL_refuses 1123 = .ok (.if_icmp .ne 52, 3) := by decide +kernel
theorem dL_refuses_1126 : decode cL_refuses 1126 = .ok (.aload_n 0, 1) := by decide +kernel
theorem dL_refuses_1127 : decode cL_refuses 1127 = .ok (.iconst 0, 1) := by decide +kernel
theorem dL_refuses_1128 : decode cL_refuses 1128 = .ok (.invokevirtual 48, 3) := by decide +kernel
theorem dL_refuses_1131 : decode cL_refuses 1131 = .ok (.iload 4, 2) := by decide +kernel
theorem dL_refuses_1133 : decode cL_refuses 1133 = .ok (.if_icmp .ne 42, 3) := by decide +kernel
theorem dL_refuses_1136 : decode cL_refuses 1136 = .ok (.aload_n 0, 1) := by decide +kernel
theorem dL_refuses_1137 : decode cL_refuses 1137 = .ok (.iconst 1, 1) := by decide +kernel
theorem dL_refuses_1138 : decode cL_refuses 1138 = .ok (.invokevirtual 48, 3) := by decide +kernel
theorem dL_refuses_1141 : decode cL_refuses 1141 = .ok (.iload 5, 2) := by decide +kernel
theorem dL_refuses_1143 : decode cL_refuses 1143 = .ok (.if_icmp .ne 32, 3) := by decide +kernel
theorem dL_refuses_1146 : decode cL_refuses 1146 = .ok (.aload_n 0, 1) := by decide +kernel
theorem dL_refuses_1147 : decode cL_refuses 1147 = .ok (.invokevirtual 87, 3) := by decide +kernel
theorem dL_refuses_1150 : decode cL_refuses 1150 = .ok (.iload 6, 2) := by decide +kernel
theorem dL_refuses_1152 : decode cL_refuses 1152 = .ok (.if_icmp .ne 23, 3) := by decide +kernel
theorem dL_refuses_1155 : decode cL_refuses 1155 = .ok (.iload_n 3, 1) := by decide +kernel
theorem dL_refuses_1156 : decode cL_refuses 1156 = .ok (.ifCond .eq 15, 3) := by decide +kernel
theorem dL_refuses_1159 : decode cL_refuses 1159 = .ok (.aload_n 0, 1) := by decide +kernel
theorem dL_refuses_1160 : decode cL_refuses 1160 = .ok (.iconst 0, 1) := by decide +kernel
theorem dL_refuses_1161 : decode cL_refuses 1161 = .ok (.iconst 0, 1) := by decide +kernel
theorem dL_refuses_1162 : decode cL_refuses 1162 = .ok (.iconst 0, 1) := by decide +kernel
theorem dL_refuses_1163 : decode cL_refuses 1163 = .ok (.invokestatic 92, 3) := by decide +kernel
theorem dL_refuses_1166 : decode cL_refuses 1166 = .ok (.bipush (-73), 2) := by decide +kernel
theorem dL_refuses_1168 : decode cL_refuses 1168 = .ok (.if_icmp .ne 7, 3) := by decide +kernel
theorem dL_refuses_1171 : decode cL_refuses 1171 = .ok (.iconst 1, 1) := by decide +kernel
theorem dL_refuses_1172 : decode cL_refuses 1172 = .ok (.goto 4, 3) := by decide +kernel
theorem dL_refuses_1175 : decode cL_refuses 1175 = .ok (.iconst 0, 1) := by decide +kernel
theorem dL_refuses_1176 : decode cL_refuses 1176 = .ok (.ireturn, 1) := by decide +kernel
end
section
theorem dL_searches_0 : decode cL_searches 0 = .ok (.new 8, 3) := by decide +kernel
theorem dL_searches_3 : decode cL_searches 3 = .ok (.dup, 1) := by decide +kernel
theorem dL_searches_4 : decode cL_searches 4 = .ok (.invokespecial 111, 3) := by decide +kernel
theorem dL_searches_7 : decode cL_searches 7 = .ok (.astore_n 0, 1) := by decide +kernel
theorem dL_searches_8 : decode cL_searches 8 = .ok (.aload_n 0, 1) := by decide +kernel
theorem dL_searches_9 : decode cL_searches 9 = .ok (.iconst 1, 1) := by decide +kernel
theorem dL_searches_10 : decode cL_searches 10 = .ok (.iconst 1, 1) := by decide +kernel
theorem dL_searches_11 : decode cL_searches 11 = .ok (.iconst 2, 1) := by decide +kernel
theorem dL_searches_12 : decode cL_searches 12 = .ok (.invokestatic 92, 3) := by decide +kernel
theorem dL_searches_15 : decode cL_searches 15 = .ok (.ifCond .ne 231, 3) := by decide +kernel
theorem dL_searches_18 : decode cL_searches 18 = .ok (.aload_n 0, 1) := by decide +kernel
theorem dL_searches_19 : decode cL_searches 19 = .ok (.iconst 0, 1) := by decide +kernel
theorem dL_searches_20 : decode cL_searches 20 = .ok (.iconst 0, 1) := by decide +kernel
theorem dL_searches_21 : decode cL_searches 21 = .ok (.bipush 30, 2) := by decide +kernel
theorem dL_searches_23 : decode cL_searches 23 = .ok (.iconst 1, 1) := by decide +kernel
theorem dL_searches_24 : decode cL_searches 24 = .ok (.invokevirtual 26, 3) := by decide +kernel
theorem dL_searches_27 : decode cL_searches 27 = .ok (.iconst 2, 1) := by decide +kernel
theorem dL_searches_28 : decode cL_searches 28 = .ok (.if_icmp .ne 218, 3) := by decide +kernel
theorem dL_searches_31 : decode cL_searches 31 = .ok (.aload_n 0, 1) := by decide +kernel
theorem dL_searches_32 : decode cL_searches 32 = .ok (.iconst 0, 1) := by decide +kernel
theorem dL_searches_33 : decode cL_searches 33 = .ok (.iconst 2, 1) := by decide +kernel
theorem dL_searches_34 : decode cL_searches 34 = .ok (.bipush 9, 2) := by decide +kernel
theorem dL_searches_36 : decode cL_searches 36 = .ok (.iconst 1, 1) := by decide +kernel
theorem dL_searches_37 : decode cL_searches 37 = .ok (.invokevirtual 26, 3) := by decide +kernel
theorem dL_searches_40 : decode cL_searches 40 = .ok (.iconst 3, 1) := by decide +kernel
theorem dL_searches_41 : decode cL_searches 41 = .ok (.if_icmp .ne 205, 3) := by decide +kernel
theorem dL_searches_44 : decode cL_searches 44 = .ok (.aload_n 0, 1) := by decide +kernel
theorem dL_searches_45 : decode cL_searches 45 = .ok (.iconst 0, 1) := by decide +kernel
theorem dL_searches_46 : decode cL_searches 46 = .ok (.iconst 2, 1) := by decide +kernel
theorem dL_searches_47 : decode cL_searches 47 = .ok (.iconst 4, 1) := by decide +kernel
theorem dL_searches_48 : decode cL_searches 48 = .ok (.iconst 0, 1) := by decide +kernel
theorem dL_searches_49 : decode cL_searches 49 = .ok (.invokevirtual 26, 3) := by decide +kernel
theorem dL_searches_52 : decode cL_searches 52 = .ok (.iconst 4, 1) := by decide +kernel
theorem dL_searches_53 : decode cL_searches 53 = .ok (.if_icmp .ne 193, 3) := by decide +kernel
theorem dL_searches_56 : decode cL_searches 56 = .ok (.aload_n 0, 1) := by decide +kernel
theorem dL_searches_57 : decode cL_searches 57 = .ok (.iconst 0, 1) := by decide +kernel
theorem dL_searches_58 : decode cL_searches 58 = .ok (.iconst 0, 1) := by decide +kernel
theorem dL_searches_59 : decode cL_searches 59 = .ok (.iconst 3, 1) := by decide +kernel
theorem dL_searches_60 : decode cL_searches 60 = .ok (.iconst 2, 1) := by decide +kernel
theorem dL_searches_61 : decode cL_searches 61 = .ok (.invokevirtual 26, 3) := by decide +kernel
theorem dL_searches_64 : decode cL_searches 64 = .ok (.iconst 5, 1) := by decide +kernel
theorem dL_searches_65 : decode cL_searches 65 = .ok (.if_icmp .ne 181, 3) := by decide +kernel
theorem dL_searches_68 : decode cL_searches 68 = .ok (.aload_n 0, 1) := by decide +kernel
theorem dL_searches_69 : decode cL_searches 69 = .ok (.iconst 1, 1) := by decide +kernel
theorem dL_searches_70 : decode cL_searches 70 = .ok (.iconst 1, 1) := by decide +kernel
theorem dL_searches_71 : decode cL_searches 71 = .ok (.iconst 2, 1) := by decide +kernel
theorem dL_searches_72 : decode cL_searches 72 = .ok (.invokestatic 92, 3) := by decide +kernel
theorem dL_searches_75 : decode cL_searches 75 = .ok (.bipush (-73), 2) := by decide +kernel
theorem dL_searches_77 : decode cL_searches 77 = .ok (.if_icmp .ne 169, 3) := by decide +kernel
theorem dL_searches_80 : decode cL_searches 80 = .ok (.aload_n 0, 1) := by decide +kernel
theorem dL_searches_81 : decode cL_searches 81 = .ok (.iconst 0, 1) := by decide +kernel
theorem dL_searches_82 : decode cL_searches 82 = .ok (.iconst 2, 1) := by decide +kernel
theorem dL_searches_83 : decode cL_searches 83 = .ok (.invokevirtual 64, 3) := by decide +kernel
theorem dL_searches_86 : decode cL_searches 86 = .ok (.ifCond .ne 160, 3) := by decide +kernel
theorem dL_searches_89 : decode cL_searches 89 = .ok (.aload_n 0, 1) := by decide +kernel
theorem dL_searches_90 : decode cL_searches 90 = .ok (.iconst 0, 1) := by decide +kernel
theorem dL_searches_91 : decode cL_searches 91 = .ok (.iconst 4, 1) := by decide +kernel
theorem dL_searches_92 : decode cL_searches 92 = .ok (.invokevirtual 64, 3) := by decide +kernel
theorem dL_searches_95 : decode cL_searches 95 = .ok (.ifCond .eq 151, 3) := by decide +kernel
theorem dL_searches_98 : decode cL_searches 98 = .ok (.aload_n 0, 1) := by decide +kernel
theorem dL_searches_99 : decode cL_searches 99 = .ok (.iconst 1, 1) := by decide +kernel
theorem dL_searches_100 : decode cL_searches 100 = .ok (.iconst 0, 1) := by decide +kernel
theorem dL_searches_101 : decode cL_searches 101 = .ok (.iconst 2, 1) := by decide +kernel
theorem dL_searches_102 : decode cL_searches 102 = .ok (.iconst 2, 1) := by decide +kernel
theorem dL_searches_103 : decode cL_searches 103 = .ok (.iconst 5, 1) := by decide +kernel
theorem dL_searches_104 : decode cL_searches 104 = .ok (.invokestatic 98, 3) := by decide +kernel
theorem dL_searches_107 : decode cL_searches 107 = .ok (.bipush (-73), 2) := by decide +kernel
theorem dL_searches_109 : decode cL_searches 109 = .ok (.if_icmp .ne 137, 3) := by decide +kernel
theorem dL_searches_112 : decode cL_searches 112 = .ok (.aload_n 0, 1) := by decide +kernel
theorem dL_searches_113 : decode cL_searches 113 = .ok (.iconst 0, 1) := by decide +kernel
theorem dL_searches_114 : decode cL_searches 114 = .ok (.iconst 2, 1) := by decide +kernel
theorem dL_searches_115 : decode cL_searches 115 = .ok (.iconst 0, 1) := by decide +kernel
theorem dL_searches_116 : decode cL_searches 116 = .ok (.bipush 7, 2) := by decide +kernel
theorem dL_searches_118 : decode cL_searches 118 = .ok (.invokevirtual 30, 3) := by decide +kernel
theorem dL_searches_121 : decode cL_searches 121 = .ok (.iconst (-1), 1) := by decide +kernel
theorem dL_searches_122 : decode cL_searches 122 = .ok (.if_icmp .ne 124, 3) := by decide +kernel
theorem dL_searches_125 : decode cL_searches 125 = .ok (.aload_n 0, 1) := by decide +kernel
theorem dL_searches_126 : decode cL_searches 126 = .ok (.iconst 0, 1) := by decide +kernel
theorem dL_searches_127 : decode cL_searches 127 = .ok (.iconst 2, 1) := by decide +kernel
theorem dL_searches_128 : decode cL_searches 128 = .ok (.invokevirtual 64, 3) := by decide +kernel
theorem dL_searches_131 : decode cL_searches 131 = .ok (.ifCond .eq 115, 3) := by decide +kernel
theorem dL_searches_134 : decode cL_searches 134 = .ok (.aload_n 0, 1) := by decide +kernel
theorem dL_searches_135 : decode cL_searches 135 = .ok (.iconst 0, 1) := by decide +kernel
theorem dL_searches_136 : decode cL_searches 136 = .ok (.iconst 3, 1) := by decide +kernel
theorem dL_searches_137 : decode cL_searches 137 = .ok (.iconst 0, 1) := by decide +kernel
theorem dL_searches_138 : decode cL_searches 138 = .ok (.iconst 2, 1) := by decide +kernel
theorem dL_searches_139 : decode cL_searches 139 = .ok (.invokevirtual 30, 3) := by decide +kernel
theorem dL_searches_142 : decode cL_searches 142 = .ok (.iconst (-1), 1) := by decide +kernel
theorem dL_searches_143 : decode cL_searches 143 = .ok (.if_icmp .ne 103, 3) := by decide +kernel
theorem dL_searches_146 : decode cL_searches 146 = .ok (.aload_n 0, 1) := by decide +kernel
theorem dL_searches_147 : decode cL_searches 147 = .ok (.iconst 0, 1) := by decide +kernel
theorem dL_searches_148 : decode cL_searches 148 = .ok (.iconst 4, 1) := by decide +kernel
theorem dL_searches_149 : decode cL_searches 149 = .ok (.iconst 3, 1) := by decide +kernel
theorem dL_searches_150 : decode cL_searches 150 = .ok (.iconst 1, 1) := by decide +kernel
theorem dL_searches_151 : decode cL_searches 151 = .ok (.invokevirtual 30, 3) := by decide +kernel
theorem dL_searches_154 : decode cL_searches 154 = .ok (.iconst (-1), 1) := by decide +kernel
theorem dL_searches_155 : decode cL_searches 155 = .ok (.if_icmp .ne 91, 3) := by decide +kernel
theorem dL_searches_158 : decode cL_searches 158 = .ok (.aload_n 0, 1) := by decide +kernel
theorem dL_searches_159 : decode cL_searches 159 = .ok (.iconst 2, 1) := by decide +kernel
theorem dL_searches_160 : decode cL_searches 160 = .ok (.iconst 0, 1) := by decide +kernel
theorem dL_searches_161 : decode cL_searches 161 = .ok (.iconst 5, 1) := by decide +kernel
theorem dL_searches_162 : decode cL_searches 162 = .ok (.invokevirtual 70, 3) := by decide +kernel
theorem dL_searches_165 : decode cL_searches 165 = .ok (.ifCond .ne 81, 3) := by decide +kernel
theorem dL_searches_168 : decode cL_searches 168 = .ok (.aload_n 0, 1) := by decide +kernel
theorem dL_searches_169 : decode cL_searches 169 = .ok (.iconst 0, 1) := by decide +kernel
theorem dL_searches_170 : decode cL_searches 170 = .ok (.iconst 3, 1) := by decide +kernel
theorem dL_searches_171 : decode cL_searches 171 = .ok (.iconst 0, 1) := by decide +kernel
theorem dL_searches_172 : decode cL_searches 172 = .ok (.invokevirtual 70, 3) := by decide +kernel
theorem dL_searches_175 : decode cL_searches 175 = .ok (.iconst 1, 1) := by decide +kernel
theorem dL_searches_176 : decode cL_searches 176 = .ok (.if_icmp .ne 70, 3) := by decide +kernel
theorem dL_searches_179 : decode cL_searches 179 = .ok (.aload_n 0, 1) := by decide +kernel
theorem dL_searches_180 : decode cL_searches 180 = .ok (.iconst 2, 1) := by decide +kernel
theorem dL_searches_181 : decode cL_searches 181 = .ok (.iconst 1, 1) := by decide +kernel
theorem dL_searches_182 : decode cL_searches 182 = .ok (.iconst 1, 1) := by decide +kernel
theorem dL_searches_183 : decode cL_searches 183 = .ok (.invokevirtual 73, 3) := by decide +kernel
theorem dL_searches_186 : decode cL_searches 186 = .ok (.iconst 2, 1) := by decide +kernel
theorem dL_searches_187 : decode cL_searches 187 = .ok (.if_icmp .ne 59, 3) := by decide +kernel
theorem dL_searches_190 : decode cL_searches 190 = .ok (.aload_n 0, 1) := by decide +kernel
theorem dL_searches_191 : decode cL_searches 191 = .ok (.iconst 1, 1) := by decide +kernel
theorem dL_searches_192 : decode cL_searches 192 = .ok (.iconst 0, 1) := by decide +kernel
theorem dL_searches_193 : decode cL_searches 193 = .ok (.iconst 1, 1) := by decide +kernel
theorem dL_searches_194 : decode cL_searches 194 = .ok (.invokevirtual 73, 3) := by decide +kernel
theorem dL_searches_197 : decode cL_searches 197 = .ok (.iconst 3, 1) := by decide +kernel
theorem dL_searches_198 : decode cL_searches 198 = .ok (.if_icmp .ne 48, 3) := by decide +kernel
theorem dL_searches_201 : decode cL_searches 201 = .ok (.aload_n 0, 1) := by decide +kernel
theorem dL_searches_202 : decode cL_searches 202 = .ok (.iconst 0, 1) := by decide +kernel
theorem dL_searches_203 : decode cL_searches 203 = .ok (.iconst 0, 1) := by decide +kernel
theorem dL_searches_204 : decode cL_searches 204 = .ok (.iconst 1, 1) := by decide +kernel
theorem dL_searches_205 : decode cL_searches 205 = .ok (.invokevirtual 73, 3) := by decide +kernel
theorem dL_searches_208 : decode cL_searches 208 = .ok (.iconst 4, 1) := by decide +kernel
theorem dL_searches_209 : decode cL_searches 209 = .ok (.if_icmp .ne 37, 3) := by decide +kernel
theorem dL_searches_212 : decode cL_searches 212 = .ok (.aload_n 0, 1) := by decide +kernel
theorem dL_searches_213 : decode cL_searches 213 = .ok (.iconst 1, 1) := by decide +kernel
theorem dL_searches_214 : decode cL_searches 214 = .ok (.iconst 1, 1) := by decide +kernel
theorem dL_searches_215 : decode cL_searches 215 = .ok (.iconst 2, 1) := by decide +kernel
theorem dL_searches_216 : decode cL_searches 216 = .ok (.invokevirtual 73, 3) := by decide +kernel
theorem dL_searches_219 : decode cL_searches 219 = .ok (.iconst 5, 1) := by decide +kernel
theorem dL_searches_220 : decode cL_searches 220 = .ok (.if_icmp .ne 26, 3) := by decide +kernel
theorem dL_searches_223 : decode cL_searches 223 = .ok (.aload_n 0, 1) := by decide +kernel
theorem dL_searches_224 : decode cL_searches 224 = .ok (.iconst 1, 1) := by decide +kernel
theorem dL_searches_225 : decode cL_searches 225 = .ok (.iconst 0, 1) := by decide +kernel
theorem dL_searches_226 : decode cL_searches 226 = .ok (.iconst 2, 1) := by decide +kernel
theorem dL_searches_227 : decode cL_searches 227 = .ok (.invokevirtual 70, 3) := by decide +kernel
theorem dL_searches_230 : decode cL_searches 230 = .ok (.bipush 6, 2) := by decide +kernel
theorem dL_searches_232 : decode cL_searches 232 = .ok (.if_icmp .ne 14, 3) := by decide +kernel
theorem dL_searches_235 : decode cL_searches 235 = .ok (.aload_n 0, 1) := by decide +kernel
theorem dL_searches_236 : decode cL_searches 236 = .ok (.bipush 7, 2) := by decide +kernel
theorem dL_searches_238 : decode cL_searches 238 = .ok (.bipush 6, 2) := by decide +kernel
theorem dL_searches_240 : decode cL_searches 240 = .ok (.invokestatic 116, 3) := by decide +kernel
theorem dL_searches_243 : decode cL_searches 243 = .ok (.ifCond .ne 5, 3) := by decide +kernel
theorem dL_searches_246 : decode cL_searches 246 = .ok (.iconst 0, 1) := by decide +kernel
theorem dL_searches_247 : decode cL_searches 247 = .ok (.ireturn, 1) := by decide +kernel
theorem dL_searches_248 : decode cL_searches 248 = .ok (.aload_n 0, 1) := by decide +kernel
theorem dL_searches_249 : decode cL_searches 249 = .ok (.iconst 0, 1) := by decide +kernel
theorem dL_searches_250 : decode cL_searches 250 = .ok (.iconst 0, 1) := by decide +kernel
theorem dL_searches_251 : decode cL_searches 251 = .ok (.iconst 2, 1) := by decide +kernel
theorem dL_searches_252 : decode cL_searches 252 = .ok (.invokevirtual 76, 3) := by decide +kernel
theorem dL_searches_255 : decode cL_searches 255 = .ok (.iconst 1, 1) := by decide +kernel
theorem dL_searches_256 : decode cL_searches 256 = .ok (.if_icmp .ne 164, 3) := by decide +kernel
theorem dL_searches_259 : decode cL_searches 259 = .ok (.aload_n 0, 1) := by decide +kernel
theorem dL_searches_260 : decode cL_searches 260 = .ok (.iconst 0, 1) := by decide +kernel
theorem dL_searches_261 : decode cL_searches 261 = .ok (.iconst 0, 1) := by decide +kernel
theorem dL_searches_262 : decode cL_searches 262 = .ok (.iconst 3, 1) := by decide +kernel
theorem dL_searches_263 : decode cL_searches 263 = .ok (.invokevirtual 76, 3) := by decide +kernel
theorem dL_searches_266 : decode cL_searches 266 = .ok (.ifCond .ne 154, 3) := by decide +kernel
theorem dL_searches_269 : decode cL_searches 269 = .ok (.aload_n 0, 1) := by decide +kernel
theorem dL_searches_270 : decode cL_searches 270 = .ok (.iconst 0, 1) := by decide +kernel
theorem dL_searches_271 : decode cL_searches 271 = .ok (.iconst 0, 1) := by decide +kernel
theorem dL_searches_272 : decode cL_searches 272 = .ok (.iconst 4, 1) := by decide +kernel
theorem dL_searches_273 : decode cL_searches 273 = .ok (.invokevirtual 76, 3) := by decide +kernel
theorem dL_searches_276 : decode cL_searches 276 = .ok (.ifCond .ne 144, 3) := by decide +kernel
theorem dL_searches_279 : decode cL_searches 279 = .ok (.aload_n 0, 1) := by decide +kernel
theorem dL_searches_280 : decode cL_searches 280 = .ok (.iconst 0, 1) := by decide +kernel
theorem dL_searches_281 : decode cL_searches 281 = .ok (.iconst 1, 1) := by decide +kernel
theorem dL_searches_282 : decode cL_searches 282 = .ok (.iconst 2, 1) := by decide +kernel
theorem dL_searches_283 : decode cL_searches 283 = .ok (.invokevirtual 76, 3) := by decide +kernel
theorem dL_searches_286 : decode cL_searches 286 = .ok (.iconst (-1), 1) := by decide +kernel
theorem dL_searches_287 : decode cL_searches 287 = .ok (.if_icmp .ne 133, 3) := by decide +kernel
theorem dL_searches_290 : decode cL_searches 290 = .ok (.aload_n 0, 1) := by decide +kernel
theorem dL_searches_291 : decode cL_searches 291 = .ok (.iconst 0, 1) := by decide +kernel
end
section
theorem dL_searches_292 : decode cL_searches 292 = .ok (.iconst 1, 1) := by decide +kernel
theorem dL_searches_293 : decode cL_searches 293 = .ok (.iconst 4, 1) := by decide +kernel
theorem dL_searches_294 : decode cL_searches 294 = .ok (.invokevirtual 76, 3) := by decide +kernel
theorem dL_searches_297 : decode cL_searches 297 = .ok (.iconst 1, 1) := by decide +kernel
theorem dL_searches_298 : decode cL_searches 298 = .ok (.if_icmp .ne 122, 3) := by decide +kernel
theorem dL_searches_301 : decode cL_searches 301 = .ok (.aload_n 0, 1) := by decide +kernel
theorem dL_searches_302 : decode cL_searches 302 = .ok (.iconst 0, 1) := by decide +kernel
theorem dL_searches_303 : decode cL_searches 303 = .ok (.iconst 2, 1) := by decide +kernel
theorem dL_searches_304 : decode cL_searches 304 = .ok (.iconst 2, 1) := by decide +kernel
theorem dL_searches_305 : decode cL_searches 305 = .ok (.invokevirtual 76, 3) := by decide +kernel
theorem dL_searches_308 : decode cL_searches 308 = .ok (.iconst (-1), 1) := by decide +kernel
theorem dL_searches_309 : decode cL_searches 309 = .ok (.if_icmp .ne 111, 3) := by decide +kernel
theorem dL_searches_312 : decode cL_searches 312 = .ok (.aload_n 0, 1) := by decide +kernel
theorem dL_searches_313 : decode cL_searches 313 = .ok (.iconst 0, 1) := by decide +kernel
theorem dL_searches_314 : decode cL_searches 314 = .ok (.iconst 2, 1) := by decide +kernel
theorem dL_searches_315 : decode cL_searches 315 = .ok (.iconst 5, 1) := by decide +kernel
theorem dL_searches_316 : decode cL_searches 316 = .ok (.invokevirtual 76, 3) := by decide +kernel
theorem dL_searches_319 : decode cL_searches 319 = .ok (.iconst 1, 1) := by decide +kernel
theorem dL_searches_320 : decode cL_searches 320 = .ok (.if_icmp .ne 100, 3) := by decide +kernel
theorem dL_searches_323 : decode cL_searches 323 = .ok (.aload_n 0, 1) := by decide +kernel
theorem dL_searches_324 : decode cL_searches 324 = .ok (.iconst 0, 1) := by decide +kernel
theorem dL_searches_325 : decode cL_searches 325 = .ok (.iconst 3, 1) := by decide +kernel
theorem dL_searches_326 : decode cL_searches 326 = .ok (.iconst 2, 1) := by decide +kernel
theorem dL_searches_327 : decode cL_searches 327 = .ok (.invokevirtual 76, 3) := by decide +kernel
theorem dL_searches_330 : decode cL_searches 330 = .ok (.iconst 1, 1) := by decide +kernel
theorem dL_searches_331 : decode cL_searches 331 = .ok (.if_icmp .ne 89, 3) := by decide +kernel
theorem dL_searches_334 : decode cL_searches 334 = .ok (.aload_n 0, 1) := by decide +kernel
theorem dL_searches_335 : decode cL_searches 335 = .ok (.iconst 0, 1) := by decide +kernel
theorem dL_searches_336 : decode cL_searches 336 = .ok (.iconst 3, 1) := by decide +kernel
theorem dL_searches_337 : decode cL_searches 337 = .ok (.iconst 3, 1) := by decide +kernel
theorem dL_searches_338 : decode cL_searches 338 = .ok (.invokevirtual 76, 3) := by decide +kernel
theorem dL_searches_341 : decode cL_searches 341 = .ok (.iconst (-1), 1) := by decide +kernel
theorem dL_searches_342 : decode cL_searches 342 = .ok (.if_icmp .ne 78, 3) := by decide +kernel
theorem dL_searches_345 : decode cL_searches 345 = .ok (.aload_n 0, 1) := by decide +kernel
theorem dL_searches_346 : decode cL_searches 346 = .ok (.iconst 0, 1) := by decide +kernel
theorem dL_searches_347 : decode cL_searches 347 = .ok (.iconst 3, 1) := by decide +kernel
theorem dL_searches_348 : decode cL_searches 348 = .ok (.iconst 4, 1) := by decide +kernel
theorem dL_searches_349 : decode cL_searches 349 = .ok (.invokevirtual 76, 3) := by decide +kernel
theorem dL_searches_352 : decode cL_searches 352 = .ok (.iconst 1, 1) := by decide +kernel
theorem dL_searches_353 : decode cL_searches 353 = .ok (.if_icmp .ne 67, 3) := by decide +kernel
theorem dL_searches_356 : decode cL_searches 356 = .ok (.aload_n 0, 1) := by decide +kernel
theorem dL_searches_357 : decode cL_searches 357 = .ok (.iconst 0, 1) := by decide +kernel
theorem dL_searches_358 : decode cL_searches 358 = .ok (.iconst 3, 1) := by decide +kernel
theorem dL_searches_359 : decode cL_searches 359 = .ok (.iconst 5, 1) := by decide +kernel
theorem dL_searches_360 : decode cL_searches 360 = .ok (.invokevirtual 76, 3) := by decide +kernel
theorem dL_searches_363 : decode cL_searches 363 = .ok (.ifCond .ne 57, 3) := by decide +kernel
theorem dL_searches_366 : decode cL_searches 366 = .ok (.aload_n 0, 1) := by decide +kernel
theorem dL_searches_367 : decode cL_searches 367 = .ok (.iconst 0, 1) := by decide +kernel
theorem dL_searches_368 : decode cL_searches 368 = .ok (.iconst 4, 1) := by decide +kernel
theorem dL_searches_369 : decode cL_searches 369 = .ok (.iconst 2, 1) := by decide +kernel
theorem dL_searches_370 : decode cL_searches 370 = .ok (.invokevirtual 76, 3) := by decide +kernel
theorem dL_searches_373 : decode cL_searches 373 = .ok (.iconst (-1), 1) := by decide +kernel
theorem dL_searches_374 : decode cL_searches 374 = .ok (.if_icmp .ne 46, 3) := by decide +kernel
theorem dL_searches_377 : decode cL_searches 377 = .ok (.aload_n 0, 1) := by decide +kernel
theorem dL_searches_378 : decode cL_searches 378 = .ok (.iconst 0, 1) := by decide +kernel
theorem dL_searches_379 : decode cL_searches 379 = .ok (.iconst 4, 1) := by decide +kernel
theorem dL_searches_380 : decode cL_searches 380 = .ok (.iconst 3, 1) := by decide +kernel
theorem dL_searches_381 : decode cL_searches 381 = .ok (.invokevirtual 76, 3) := by decide +kernel
theorem dL_searches_384 : decode cL_searches 384 = .ok (.ifCond .ne 36, 3) := by decide +kernel
theorem dL_searches_387 : decode cL_searches 387 = .ok (.aload_n 0, 1) := by decide +kernel
theorem dL_searches_388 : decode cL_searches 388 = .ok (.iconst 0, 1) := by decide +kernel
theorem dL_searches_389 : decode cL_searches 389 = .ok (.iconst 4, 1) := by decide +kernel
theorem dL_searches_390 : decode cL_searches 390 = .ok (.iconst 4, 1) := by decide +kernel
theorem dL_searches_391 : decode cL_searches 391 = .ok (.invokevirtual 76, 3) := by decide +kernel
theorem dL_searches_394 : decode cL_searches 394 = .ok (.ifCond .ne 26, 3) := by decide +kernel
theorem dL_searches_397 : decode cL_searches 397 = .ok (.aload_n 0, 1) := by decide +kernel
theorem dL_searches_398 : decode cL_searches 398 = .ok (.iconst 0, 1) := by decide +kernel
theorem dL_searches_399 : decode cL_searches 399 = .ok (.bipush 6, 2) := by decide +kernel
theorem dL_searches_401 : decode cL_searches 401 = .ok (.iconst 3, 1) := by decide +kernel
theorem dL_searches_402 : decode cL_searches 402 = .ok (.invokevirtual 76, 3) := by decide +kernel
theorem dL_searches_405 : decode cL_searches 405 = .ok (.iconst 1, 1) := by decide +kernel
theorem dL_searches_406 : decode cL_searches 406 = .ok (.if_icmp .ne 14, 3) := by decide +kernel
theorem dL_searches_409 : decode cL_searches 409 = .ok (.aload_n 0, 1) := by decide +kernel
theorem dL_searches_410 : decode cL_searches 410 = .ok (.iconst 0, 1) := by decide +kernel
theorem dL_searches_411 : decode cL_searches 411 = .ok (.bipush 6, 2) := by decide +kernel
theorem dL_searches_413 : decode cL_searches 413 = .ok (.iconst 2, 1) := by decide +kernel
theorem dL_searches_414 : decode cL_searches 414 = .ok (.invokevirtual 76, 3) := by decide +kernel
theorem dL_searches_417 : decode cL_searches 417 = .ok (.ifCond .eq 5, 3) := by decide +kernel
theorem dL_searches_420 : decode cL_searches 420 = .ok (.iconst 0, 1) := by decide +kernel
theorem dL_searches_421 : decode cL_searches 421 = .ok (.ireturn, 1) := by decide +kernel
theorem dL_searches_422 : decode cL_searches 422 = .ok (.aload_n 0, 1) := by decide +kernel
theorem dL_searches_423 : decode cL_searches 423 = .ok (.iconst 0, 1) := by decide +kernel
theorem dL_searches_424 : decode cL_searches 424 = .ok (.iconst 0, 1) := by decide +kernel
theorem dL_searches_425 : decode cL_searches 425 = .ok (.iconst 2, 1) := by decide +kernel
theorem dL_searches_426 : decode cL_searches 426 = .ok (.iconst 2, 1) := by decide +kernel
theorem dL_searches_427 : decode cL_searches 427 = .ok (.iconst 0, 1) := by decide +kernel
theorem dL_searches_428 : decode cL_searches 428 = .ok (.iconst 5, 1) := by decide +kernel
theorem dL_searches_429 : decode cL_searches 429 = .ok (.iconst 1, 1) := by decide +kernel
theorem dL_searches_430 : decode cL_searches 430 = .ok (.iconst (-1), 1) := by decide +kernel
theorem dL_searches_431 : decode cL_searches 431 = .ok (.invokestatic 120, 3) := by decide +kernel
theorem dL_searches_434 : decode cL_searches 434 = .ok (.ifCond .eq 305, 3) := by decide +kernel
theorem dL_searches_437 : decode cL_searches 437 = .ok (.aload_n 0, 1) := by decide +kernel
theorem dL_searches_438 : decode cL_searches 438 = .ok (.iconst 0, 1) := by decide +kernel
theorem dL_searches_439 : decode cL_searches 439 = .ok (.iconst 0, 1) := by decide +kernel
theorem dL_searches_440 : decode cL_searches 440 = .ok (.iconst 2, 1) := by decide +kernel
theorem dL_searches_441 : decode cL_searches 441 = .ok (.iconst 5, 1) := by decide +kernel
theorem dL_searches_442 : decode cL_searches 442 = .ok (.iconst 0, 1) := by decide +kernel
theorem dL_searches_443 : decode cL_searches 443 = .ok (.iconst 5, 1) := by decide +kernel
theorem dL_searches_444 : decode cL_searches 444 = .ok (.iconst 4, 1) := by decide +kernel
theorem dL_searches_445 : decode cL_searches 445 = .ok (.iconst 1, 1) := by decide +kernel
theorem dL_searches_446 : decode cL_searches 446 = .ok (.invokestatic 120, 3) := by decide +kernel
theorem dL_searches_449 : decode cL_searches 449 = .ok (.ifCond .eq 290, 3) := by decide +kernel
theorem dL_searches_452 : decode cL_searches 452 = .ok (.aload_n 0, 1) := by decide +kernel
theorem dL_searches_453 : decode cL_searches 453 = .ok (.iconst 0, 1) := by decide +kernel
theorem dL_searches_454 : decode cL_searches 454 = .ok (.iconst 0, 1) := by decide +kernel
theorem dL_searches_455 : decode cL_searches 455 = .ok (.iconst 1, 1) := by decide +kernel
theorem dL_searches_456 : decode cL_searches 456 = .ok (.iconst 5, 1) := by decide +kernel
theorem dL_searches_457 : decode cL_searches 457 = .ok (.iconst 5, 1) := by decide +kernel
theorem dL_searches_458 : decode cL_searches 458 = .ok (.iconst 1, 1) := by decide +kernel
theorem dL_searches_459 : decode cL_searches 459 = .ok (.iconst (-1), 1) := by decide +kernel
theorem dL_searches_460 : decode cL_searches 460 = .ok (.iconst (-1), 1) := by decide +kernel
theorem dL_searches_461 : decode cL_searches 461 = .ok (.invokestatic 120, 3) := by decide +kernel
theorem dL_searches_464 : decode cL_searches 464 = .ok (.ifCond .eq 275, 3) := by decide +kernel
theorem dL_searches_467 : decode cL_searches 467 = .ok (.aload_n 0, 1) := by decide +kernel
theorem dL_searches_468 : decode cL_searches 468 = .ok (.iconst 0, 1) := by decide +kernel
theorem dL_searches_469 : decode cL_searches 469 = .ok (.iconst 0, 1) := by decide +kernel
theorem dL_searches_470 : decode cL_searches 470 = .ok (.iconst 0, 1) := by decide +kernel
theorem dL_searches_471 : decode cL_searches 471 = .ok (.iconst 5, 1) := by decide +kernel
theorem dL_searches_472 : decode cL_searches 472 = .ok (.iconst 0, 1) := by decide +kernel
theorem dL_searches_473 : decode cL_searches 473 = .ok (.iconst (-1), 1) := by decide +kernel
theorem dL_searches_474 : decode cL_searches 474 = .ok (.iconst (-1), 1) := by decide +kernel
theorem dL_searches_475 : decode cL_searches 475 = .ok (.iconst (-1), 1) := by decide +kernel
theorem dL_searches_476 : decode cL_searches 476 = .ok (.invokestatic 120, 3) := by decide +kernel
theorem dL_searches_479 : decode cL_searches 479 = .ok (.ifCond .eq 260, 3) := by decide +kernel
theorem dL_searches_482 : decode cL_searches 482 = .ok (.aload_n 0, 1) := by decide +kernel
theorem dL_searches_483 : decode cL_searches 483 = .ok (.iconst 0, 1) := by decide +kernel
theorem dL_searches_484 : decode cL_searches 484 = .ok (.iconst 2, 1) := by decide +kernel
theorem dL_searches_485 : decode cL_searches 485 = .ok (.iconst 0, 1) := by decide +kernel
theorem dL_searches_486 : decode cL_searches 486 = .ok (.iconst 5, 1) := by decide +kernel
theorem dL_searches_487 : decode cL_searches 487 = .ok (.iconst (-1), 1) := by decide +kernel
theorem dL_searches_488 : decode cL_searches 488 = .ok (.iconst (-1), 1) := by decide +kernel
theorem dL_searches_489 : decode cL_searches 489 = .ok (.iconst (-1), 1) := by decide +kernel
theorem dL_searches_490 : decode cL_searches 490 = .ok (.iconst (-1), 1) := by decide +kernel
theorem dL_searches_491 : decode cL_searches 491 = .ok (.invokestatic 120, 3) := by decide +kernel
theorem dL_searches_494 : decode cL_searches 494 = .ok (.ifCond .eq 245, 3) := by decide +kernel
theorem dL_searches_497 : decode cL_searches 497 = .ok (.aload_n 0, 1) := by decide +kernel
theorem dL_searches_498 : decode cL_searches 498 = .ok (.iconst 0, 1) := by decide +kernel
theorem dL_searches_499 : decode cL_searches 499 = .ok (.iconst 2, 1) := by decide +kernel
theorem dL_searches_500 : decode cL_searches 500 = .ok (.iconst 1, 1) := by decide +kernel
theorem dL_searches_501 : decode cL_searches 501 = .ok (.iconst 5, 1) := by decide +kernel
theorem dL_searches_502 : decode cL_searches 502 = .ok (.iconst 4, 1) := by decide +kernel
theorem dL_searches_503 : decode cL_searches 503 = .ok (.iconst (-1), 1) := by decide +kernel
theorem dL_searches_504 : decode cL_searches 504 = .ok (.iconst (-1), 1) := by decide +kernel
theorem dL_searches_505 : decode cL_searches 505 = .ok (.iconst (-1), 1) := by decide +kernel
theorem dL_searches_506 : decode cL_searches 506 = .ok (.invokestatic 120, 3) := by decide +kernel
theorem dL_searches_509 : decode cL_searches 509 = .ok (.ifCond .eq 230, 3) := by decide +kernel
theorem dL_searches_512 : decode cL_searches 512 = .ok (.aload_n 0, 1) := by decide +kernel
theorem dL_searches_513 : decode cL_searches 513 = .ok (.iconst 0, 1) := by decide +kernel
theorem dL_searches_514 : decode cL_searches 514 = .ok (.iconst 2, 1) := by decide +kernel
theorem dL_searches_515 : decode cL_searches 515 = .ok (.iconst 2, 1) := by decide +kernel
theorem dL_searches_516 : decode cL_searches 516 = .ok (.iconst 3, 1) := by decide +kernel
theorem dL_searches_517 : decode cL_searches 517 = .ok (.iconst 2, 1) := by decide +kernel
theorem dL_searches_518 : decode cL_searches 518 = .ok (.iconst 4, 1) := by decide +kernel
theorem dL_searches_519 : decode cL_searches 519 = .ok (.iconst (-1), 1) := by decide +kernel
theorem dL_searches_520 : decode cL_searches 520 = .ok (.iconst (-1), 1) := by decide +kernel
theorem dL_searches_521 : decode cL_searches 521 = .ok (.invokestatic 120, 3) := by decide +kernel
theorem dL_searches_524 : decode cL_searches 524 = .ok (.ifCond .eq 215, 3) := by decide +kernel
theorem dL_searches_527 : decode cL_searches 527 = .ok (.aload_n 0, 1) := by decide +kernel
theorem dL_searches_528 : decode cL_searches 528 = .ok (.iconst 0, 1) := by decide +kernel
theorem dL_searches_529 : decode cL_searches 529 = .ok (.iconst 4, 1) := by decide +kernel
theorem dL_searches_530 : decode cL_searches 530 = .ok (.iconst 1, 1) := by decide +kernel
theorem dL_searches_531 : decode cL_searches 531 = .ok (.iconst 5, 1) := by decide +kernel
theorem dL_searches_532 : decode cL_searches 532 = .ok (.iconst (-1), 1) := by decide +kernel
theorem dL_searches_533 : decode cL_searches 533 = .ok (.iconst (-1), 1) := by decide +kernel
theorem dL_searches_534 : decode cL_searches 534 = .ok (.iconst (-1), 1) := by decide +kernel
theorem dL_searches_535 : decode cL_searches 535 = .ok (.iconst (-1), 1) := by decide +kernel
theorem dL_searches_536 : decode cL_searches 536 = .ok (.invokestatic 120, 3) := by decide +kernel
theorem dL_searches_539 : decode cL_searches 539 = .ok (.ifCond .eq 200, 3) := by decide +kernel
theorem dL_searches_542 : decode cL_searches 542 = .ok (.aload_n 0, 1) := by decide +kernel
theorem dL_searches_543 : decode cL_searches 543 = .ok (.iconst 0, 1) := by decide +kernel
theorem dL_searches_544 : decode cL_searches 544 = .ok (.iconst 2, 1) := by decide +kernel
theorem dL_searches_545 : decode cL_searches 545 = .ok (.iconst 1, 1) := by decide +kernel
theorem dL_searches_546 : decode cL_searches 546 = .ok (.invokestatic 102, 3) := by decide +kernel
theorem dL_searches_549 : decode cL_searches 549 = .ok (.ifCond .ne 190, 3) := by decide +kernel
theorem dL_searches_552 : decode cL_searches 552 = .ok (.aload_n 0, 1) := by decide +kernel
theorem dL_searches_553 : decode cL_searches 553 = .ok (.iconst 0, 1) := by decide +kernel
theorem dL_searches_554 : decode cL_searches 554 = .ok (.iconst 2, 1) := by decide +kernel
theorem dL_searches_555 : decode cL_searches 555 = .ok (.iconst 2, 1) := by decide +kernel
theorem dL_searches_556 : decode cL_searches 556 = .ok (.iconst 3, 1) := by decide +kernel
theorem dL_searches_557 : decode cL_searches 557 = .ok (.iconst (-1), 1) := by decide +kernel
end
section
theorem dL_searches_558 : decode cL_searches 558 = .ok (.iconst (-1), 1) := by decide +kernel
theorem dL_searches_559 : decode cL_searches 559 = .ok (.iconst (-1), 1) := by decide +kernel
theorem dL_searches_560 : decode cL_searches 560 = .ok (.iconst (-1), 1) := by decide +kernel
theorem dL_searches_561 : decode cL_searches 561 = .ok (.invokestatic 120, 3) := by decide +kernel
theorem dL_searches_564 : decode cL_searches 564 = .ok (.ifCond .eq 175, 3) := by decide +kernel
theorem dL_searches_567 : decode cL_searches 567 = .ok (.aload_n 0, 1) := by decide +kernel
theorem dL_searches_568 : decode cL_searches 568 = .ok (.iconst 1, 1) := by decide +kernel
theorem dL_searches_569 : decode cL_searches 569 = .ok (.iconst 2, 1) := by decide +kernel
theorem dL_searches_570 : decode cL_searches 570 = .ok (.iconst 2, 1) := by decide +kernel
theorem dL_searches_571 : decode cL_searches 571 = .ok (.iconst 3, 1) := by decide +kernel
theorem dL_searches_572 : decode cL_searches 572 = .ok (.iconst 2, 1) := by decide +kernel
theorem dL_searches_573 : decode cL_searches 573 = .ok (.iconst 4, 1) := by decide +kernel
theorem dL_searches_574 : decode cL_searches 574 = .ok (.iconst (-1), 1) := by decide +kernel
theorem dL_searches_575 : decode cL_searches 575 = .ok (.iconst (-1), 1) := by decide +kernel
theorem dL_searches_576 : decode cL_searches 576 = .ok (.invokestatic 120, 3) := by decide +kernel
theorem dL_searches_579 : decode cL_searches 579 = .ok (.ifCond .eq 160, 3) := by decide +kernel
theorem dL_searches_582 : decode cL_searches 582 = .ok (.aload_n 0, 1) := by decide +kernel
theorem dL_searches_583 : decode cL_searches 583 = .ok (.iconst 0, 1) := by decide +kernel
theorem dL_searches_584 : decode cL_searches 584 = .ok (.iconst 4, 1) := by decide +kernel
theorem dL_searches_585 : decode cL_searches 585 = .ok (.iconst 0, 1) := by decide +kernel
theorem dL_searches_586 : decode cL_searches 586 = .ok (.invokestatic 102, 3) := by decide +kernel
theorem dL_searches_589 : decode cL_searches 589 = .ok (.ifCond .ne 150, 3) := by decide +kernel
theorem dL_searches_592 : decode cL_searches 592 = .ok (.aload_n 0, 1) := by decide +kernel
theorem dL_searches_593 : decode cL_searches 593 = .ok (.iconst 0, 1) := by decide +kernel
theorem dL_searches_594 : decode cL_searches 594 = .ok (.iconst 2, 1) := by decide +kernel
theorem dL_searches_595 : decode cL_searches 595 = .ok (.iconst 2, 1) := by decide +kernel
theorem dL_searches_596 : decode cL_searches 596 = .ok (.iconst 3, 1) := by decide +kernel
theorem dL_searches_597 : decode cL_searches 597 = .ok (.iconst 4, 1) := by decide +kernel
theorem dL_searches_598 : decode cL_searches 598 = .ok (.iconst (-1), 1) := by decide +kernel
theorem dL_searches_599 : decode cL_searches 599 = .ok (.iconst (-1), 1) := by decide +kernel
theorem dL_searches_600 : decode cL_searches 600 = .ok (.iconst (-1), 1) := by decide +kernel
theorem dL_searches_601 : decode cL_searches 601 = .ok (.invokestatic 120, 3) := by decide +kernel
theorem dL_searches_604 : decode cL_searches 604 = .ok (.ifCond .eq 135, 3) := by decide +kernel
theorem dL_searches_607 : decode cL_searches 607 = .ok (.aload_n 0, 1) := by decide +kernel
theorem dL_searches_608 : decode cL_searches 608 = .ok (.iconst 0, 1) := by decide +kernel
theorem dL_searches_609 : decode cL_searches 609 = .ok (.iconst 2, 1) := by decide +kernel
theorem dL_searches_610 : decode cL_searches 610 = .ok (.iconst (-1), 1) := by decide +kernel
theorem dL_searches_611 : decode cL_searches 611 = .ok (.invokestatic 102, 3) := by decide +kernel
theorem dL_searches_614 : decode cL_searches 614 = .ok (.ifCond .ne 125, 3) := by decide +kernel
theorem dL_searches_617 : decode cL_searches 617 = .ok (.aload_n 0, 1) := by decide +kernel
theorem dL_searches_618 : decode cL_searches 618 = .ok (.iconst 0, 1) := by decide +kernel
theorem dL_searches_619 : decode cL_searches 619 = .ok (.iconst 0, 1) := by decide +kernel
theorem dL_searches_620 : decode cL_searches 620 = .ok (.iconst 1, 1) := by decide +kernel
theorem dL_searches_621 : decode cL_searches 621 = .ok (.invokestatic 102, 3) := by decide +kernel
theorem dL_searches_624 : decode cL_searches 624 = .ok (.ifCond .ne 115, 3) := by decide +kernel
theorem dL_searches_627 : decode cL_searches 627 = .ok (.aload_n 0, 1) := by decide +kernel
theorem dL_searches_628 : decode cL_searches 628 = .ok (.iconst 0, 1) := by decide +kernel
theorem dL_searches_629 : decode cL_searches 629 = .ok (.iconst 0, 1) := by decide +kernel
theorem dL_searches_630 : decode cL_searches 630 = .ok (.iconst 2, 1) := by decide +kernel
theorem dL_searches_631 : decode cL_searches 631 = .ok (.iconst 5, 1) := by decide +kernel
theorem dL_searches_632 : decode cL_searches 632 = .ok (.iconst 4, 1) := by decide +kernel
theorem dL_searches_633 : decode cL_searches 633 = .ok (.iconst (-1), 1) := by decide +kernel
theorem dL_searches_634 : decode cL_searches 634 = .ok (.iconst (-1), 1) := by decide +kernel
theorem dL_searches_635 : decode cL_searches 635 = .ok (.iconst (-1), 1) := by decide +kernel
theorem dL_searches_636 : decode cL_searches 636 = .ok (.invokestatic 120, 3) := by decide +kernel
theorem dL_searches_639 : decode cL_searches 639 = .ok (.ifCond .eq 100, 3) := by decide +kernel
theorem dL_searches_642 : decode cL_searches 642 = .ok (.aload_n 0, 1) := by decide +kernel
theorem dL_searches_643 : decode cL_searches 643 = .ok (.iconst 0, 1) := by decide +kernel
theorem dL_searches_644 : decode cL_searches 644 = .ok (.iconst 0, 1) := by decide +kernel
theorem dL_searches_645 : decode cL_searches 645 = .ok (.iconst (-1), 1) := by decide +kernel
theorem dL_searches_646 : decode cL_searches 646 = .ok (.invokestatic 102, 3) := by decide +kernel
theorem dL_searches_649 : decode cL_searches 649 = .ok (.ifCond .ne 90, 3) := by decide +kernel
theorem dL_searches_652 : decode cL_searches 652 = .ok (.aload_n 0, 1) := by decide +kernel
theorem dL_searches_653 : decode cL_searches 653 = .ok (.iconst 2, 1) := by decide +kernel
theorem dL_searches_654 : decode cL_searches 654 = .ok (.iconst 1, 1) := by decide +kernel
theorem dL_searches_655 : decode cL_searches 655 = .ok (.invokestatic 105, 3) := by decide +kernel
theorem dL_searches_658 : decode cL_searches 658 = .ok (.ifCond .ne 81, 3) := by decide +kernel
theorem dL_searches_661 : decode cL_searches 661 = .ok (.aload_n 0, 1) := by decide +kernel
theorem dL_searches_662 : decode cL_searches 662 = .ok (.iconst 0, 1) := by decide +kernel
theorem dL_searches_663 : decode cL_searches 663 = .ok (.iconst 0, 1) := by decide +kernel
theorem dL_searches_664 : decode cL_searches 664 = .ok (.iconst 2, 1) := by decide +kernel
theorem dL_searches_665 : decode cL_searches 665 = .ok (.iconst 5, 1) := by decide +kernel
theorem dL_searches_666 : decode cL_searches 666 = .ok (.iconst 0, 1) := by decide +kernel
theorem dL_searches_667 : decode cL_searches 667 = .ok (.iconst 5, 1) := by decide +kernel
theorem dL_searches_668 : decode cL_searches 668 = .ok (.iconst 1, 1) := by decide +kernel
theorem dL_searches_669 : decode cL_searches 669 = .ok (.iconst (-1), 1) := by decide +kernel
theorem dL_searches_670 : decode cL_searches 670 = .ok (.invokestatic 120, 3) := by decide +kernel
theorem dL_searches_673 : decode cL_searches 673 = .ok (.ifCond .eq 66, 3) := by decide +kernel
theorem dL_searches_676 : decode cL_searches 676 = .ok (.aload_n 0, 1) := by decide +kernel
theorem dL_searches_677 : decode cL_searches 677 = .ok (.iconst 0, 1) := by decide +kernel
theorem dL_searches_678 : decode cL_searches 678 = .ok (.iconst 2, 1) := by decide +kernel
theorem dL_searches_679 : decode cL_searches 679 = .ok (.iconst 2, 1) := by decide +kernel
theorem dL_searches_680 : decode cL_searches 680 = .ok (.iconst 3, 1) := by decide +kernel
theorem dL_searches_681 : decode cL_searches 681 = .ok (.iconst 2, 1) := by decide +kernel
theorem dL_searches_682 : decode cL_searches 682 = .ok (.iconst 4, 1) := by decide +kernel
theorem dL_searches_683 : decode cL_searches 683 = .ok (.iconst (-1), 1) := by decide +kernel
theorem dL_searches_684 : decode cL_searches 684 = .ok (.iconst (-1), 1) := by decide +kernel
theorem dL_searches_685 : decode cL_searches 685 = .ok (.invokestatic 120, 3) := by decide +kernel
theorem dL_searches_688 : decode cL_searches 688 = .ok (.ifCond .eq 51, 3) := by decide +kernel
theorem dL_searches_691 : decode cL_searches 691 = .ok (.aload_n 0, 1) := by decide +kernel
theorem dL_searches_692 : decode cL_searches 692 = .ok (.iconst 4, 1) := by decide +kernel
theorem dL_searches_693 : decode cL_searches 693 = .ok (.iconst 1, 1) := by decide +kernel
theorem dL_searches_694 : decode cL_searches 694 = .ok (.invokestatic 105, 3) := by decide +kernel
theorem dL_searches_697 : decode cL_searches 697 = .ok (.ifCond .ne 42, 3) := by decide +kernel
theorem dL_searches_700 : decode cL_searches 700 = .ok (.aload_n 0, 1) := by decide +kernel
theorem dL_searches_701 : decode cL_searches 701 = .ok (.iconst 0, 1) := by decide +kernel
theorem dL_searches_702 : decode cL_searches 702 = .ok (.iconst 2, 1) := by decide +kernel
theorem dL_searches_703 : decode cL_searches 703 = .ok (.iconst 2, 1) := by decide +kernel
theorem dL_searches_704 : decode cL_searches 704 = .ok (.iconst 3, 1) := by decide +kernel
theorem dL_searches_705 : decode cL_searches 705 = .ok (.iconst 2, 1) := by decide +kernel
theorem dL_searches_706 : decode cL_searches 706 = .ok (.iconst (-1), 1) := by decide +kernel
theorem dL_searches_707 : decode cL_searches 707 = .ok (.iconst (-1), 1) := by decide +kernel
theorem dL_searches_708 : decode cL_searches 708 = .ok (.iconst (-1), 1) := by decide +kernel
theorem dL_searches_709 : decode cL_searches 709 = .ok (.invokestatic 120, 3) := by decide +kernel
theorem dL_searches_712 : decode cL_searches 712 = .ok (.ifCond .eq 27, 3) := by decide +kernel
theorem dL_searches_715 : decode cL_searches 715 = .ok (.aload_n 0, 1) := by decide +kernel
theorem dL_searches_716 : decode cL_searches 716 = .ok (.iconst 0, 1) := by decide +kernel
theorem dL_searches_717 : decode cL_searches 717 = .ok (.iconst 4, 1) := by decide +kernel
theorem dL_searches_718 : decode cL_searches 718 = .ok (.iconst 0, 1) := by decide +kernel
theorem dL_searches_719 : decode cL_searches 719 = .ok (.iconst 5, 1) := by decide +kernel
theorem dL_searches_720 : decode cL_searches 720 = .ok (.iconst 4, 1) := by decide +kernel
theorem dL_searches_721 : decode cL_searches 721 = .ok (.iconst (-1), 1) := by decide +kernel
theorem dL_searches_722 : decode cL_searches 722 = .ok (.iconst (-1), 1) := by decide +kernel
theorem dL_searches_723 : decode cL_searches 723 = .ok (.iconst (-1), 1) := by decide +kernel
theorem dL_searches_724 : decode cL_searches 724 = .ok (.invokestatic 120, 3) := by decide +kernel
theorem dL_searches_727 : decode cL_searches 727 = .ok (.ifCond .eq 12, 3) := by decide +kernel
theorem dL_searches_730 : decode cL_searches 730 = .ok (.aload_n 0, 1) := by decide +kernel
theorem dL_searches_731 : decode cL_searches 731 = .ok (.iconst 2, 1) := by decide +kernel
theorem dL_searches_732 : decode cL_searches 732 = .ok (.iconst 0, 1) := by decide +kernel
theorem dL_searches_733 : decode cL_searches 733 = .ok (.invokestatic 105, 3) := by decide +kernel
theorem dL_searches_736 : decode cL_searches 736 = .ok (.ifCond .eq 5, 3) := by decide +kernel
theorem dL_searches_739 : decode cL_searches 739 = .ok (.iconst 0, 1) := by decide +kernel
theorem dL_searches_740 : decode cL_searches 740 = .ok (.ireturn, 1) := by decide +kernel
theorem dL_searches_741 : decode cL_searches 741 = .ok (.bipush 7, 2) := by decide +kernel
theorem dL_searches_743 : decode cL_searches 743 = .ok (.istore_n 1, 1) := by decide +kernel
theorem dL_searches_744 : decode cL_searches 744 = .ok (.iload_n 1, 1) := by decide +kernel
theorem dL_searches_745 : decode cL_searches 745 = .ok (.bipush 21, 2) := by decide +kernel
theorem dL_searches_747 : decode cL_searches 747 = .ok (.if_icmp .ge 54, 3) := by decide +kernel
theorem dL_searches_750 : decode cL_searches 750 = .ok (.aload_n 0, 1) := by decide +kernel
theorem dL_searches_751 : decode cL_searches 751 = .ok (.bipush 13, 2) := by decide +kernel
theorem dL_searches_753 : decode cL_searches 753 = .ok (.iload_n 1, 1) := by decide +kernel
theorem dL_searches_754 : decode cL_searches 754 = .ok (.iconst 2, 1) := by decide +kernel
theorem dL_searches_755 : decode cL_searches 755 = .ok (.irem, 1) := by decide +kernel
theorem dL_searches_756 : decode cL_searches 756 = .ok (.iadd, 1) := by decide +kernel
theorem dL_searches_757 : decode cL_searches 757 = .ok (.iload_n 1, 1) := by decide +kernel
theorem dL_searches_758 : decode cL_searches 758 = .ok (.iconst 3, 1) := by decide +kernel
theorem dL_searches_759 : decode cL_searches 759 = .ok (.irem, 1) := by decide +kernel
theorem dL_searches_760 : decode cL_searches 760 = .ok (.iload_n 1, 1) := by decide +kernel
theorem dL_searches_761 : decode cL_searches 761 = .ok (.iconst 2, 1) := by decide +kernel
theorem dL_searches_762 : decode cL_searches 762 = .ok (.irem, 1) := by decide +kernel
theorem dL_searches_763 : decode cL_searches 763 = .ok (.ifCond .ne 7, 3) := by decide +kernel
theorem dL_searches_766 : decode cL_searches 766 = .ok (.iconst 0, 1) := by decide +kernel
theorem dL_searches_767 : decode cL_searches 767 = .ok (.goto 6, 3) := by decide +kernel
theorem dL_searches_770 : decode cL_searches 770 = .ok (.iload_n 1, 1) := by decide +kernel
theorem dL_searches_771 : decode cL_searches 771 = .ok (.iconst 1, 1) := by decide +kernel
theorem dL_searches_772 : decode cL_searches 772 = .ok (.isub, 1) := by decide +kernel
theorem dL_searches_773 : decode cL_searches 773 = .ok (.iconst 0, 1) := by decide +kernel
theorem dL_searches_774 : decode cL_searches 774 = .ok (.iconst 0, 1) := by decide +kernel
theorem dL_searches_775 : decode cL_searches 775 = .ok (.invokestatic 98, 3) := by decide +kernel
theorem dL_searches_778 : decode cL_searches 778 = .ok (.iload_n 1, 1) := by decide +kernel
theorem dL_searches_779 : decode cL_searches 779 = .ok (.bipush 20, 2) := by decide +kernel
theorem dL_searches_781 : decode cL_searches 781 = .ok (.if_icmp .ge 7, 3) := by decide +kernel
theorem dL_searches_784 : decode cL_searches 784 = .ok (.iload_n 1, 1) := by decide +kernel
theorem dL_searches_785 : decode cL_searches 785 = .ok (.goto 5, 3) := by decide +kernel
theorem dL_searches_788 : decode cL_searches 788 = .ok (.bipush (-73), 2) := by decide +kernel
theorem dL_searches_790 : decode cL_searches 790 = .ok (.if_icmp .eq 5, 3) := by decide +kernel
theorem dL_searches_793 : decode cL_searches 793 = .ok (.iconst 0, 1) := by decide +kernel
theorem dL_searches_794 : decode cL_searches 794 = .ok (.ireturn, 1) := by decide +kernel
theorem dL_searches_795 : decode cL_searches 795 = .ok (.iinc 1 1, 3) := by decide +kernel
theorem dL_searches_798 : decode cL_searches 798 = .ok (.goto (-54), 3) := by decide +kernel
theorem dL_searches_801 : decode cL_searches 801 = .ok (.aload_n 0, 1) := by decide +kernel
theorem dL_searches_802 : decode cL_searches 802 = .ok (.bipush 14, 2) := by decide +kernel
theorem dL_searches_804 : decode cL_searches 804 = .ok (.iconst 0, 1) := by decide +kernel
theorem dL_searches_805 : decode cL_searches 805 = .ok (.iconst 0, 1) := by decide +kernel
theorem dL_searches_806 : decode cL_searches 806 = .ok (.iconst 0, 1) := by decide +kernel
theorem dL_searches_807 : decode cL_searches 807 = .ok (.iconst 0, 1) := by decide +kernel
theorem dL_searches_808 : decode cL_searches 808 = .ok (.invokestatic 98, 3) := by decide +kernel
theorem dL_searches_811 : decode cL_searches 811 = .ok (.bipush (-73), 2) := by decide +kernel
theorem dL_searches_813 : decode cL_searches 813 = .ok (.if_icmp .ne 18, 3) := by decide +kernel
theorem dL_searches_816 : decode cL_searches 816 = .ok (.aload_n 0, 1) := by decide +kernel
theorem dL_searches_817 : decode cL_searches 817 = .ok (.bipush 20, 2) := by decide +kernel
theorem dL_searches_819 : decode cL_searches 819 = .ok (.bipush 6, 2) := by decide +kernel
theorem dL_searches_821 : decode cL_searches 821 = .ok (.invokestatic 116, 3) := by decide +kernel
theorem dL_searches_824 : decode cL_searches 824 = .ok (.ifCond .eq 7, 3) := by decide +kernel
theorem dL_searches_827 : decode cL_searches 827 = .ok (.iconst 1, 1) := by decide +kernel
theorem dL_searches_828 : decode cL_searches 828 = .ok (.goto 4, 3) := by decide +kernel
theorem dL_searches_831 : decode cL_searches 831 = .ok (.iconst 0, 1) := by decide +kernel
theorem dL_searches_832 : decode cL_searches 832 = .ok (.ireturn, 1) := by decide +kernel
end
