/-! THE CLAIM OUT OF ONE WALK OF THE LAW'S BODY. Your part is whole_start (and what it stands on); all else here is the same for every law, but numbers. -/
def R_law : String := "EntryMastersLaw"
def lw_P (b : Addr) (xs : List Int32) (args : Array Value) (s : State) : Prop := args = #[.ref b] ∧ s.IntsAt b xs ∧ xs.length ≤ 260 ∧ (Jvm.Cond.and given_1 narrow_1).before args s = true
def lw_Q (_ : Array Value) (s : State) (o : Outcome) (t : State) : Prop := o = .returned (some (.int 1)) ∧ Framed s o t [] 622635 7233866
def lw_Z (below : List Frame) (a : Array Value) (s : State) : State → Prop := fun t => ∃ o, t.status = .running ∧ Ended t below o ∧ lw_Q a s o t
/-- the law's own end, with 1 on the stack, nothing written that was there before, its room as the claim has it -/
theorem lw_ret {p : Program} {l : Launch} {e : Env} {s : State} {m : MethodId} {below : List Frame} {meth : Method} {c : Code} {b : Nat} (hx : p.tables.exec = Jvm.exec) (hb : c.code = code) (hr : meth.sig.returnType = ret) (hlocks : meth.locks = false) {pc : Nat} {H : Heap} {ls : Array Slot} (hdg : decode code pc = .ok (.ireturn, 1)) : W p l e room_1 s m #[Value.ref b] below meth c H [] 622635 7233866 (lw_Z below #[Value.ref b] s) (F0 m pc ls [.int 1]) := by
  intro T hT X
  obtain ⟨fs, hret, hrun, hended, hW, hframe⟩ := X.leave (v := some (.int 1)) (hlocks := hlocks) (fun h => by rw [hr] at h; cases h)
  have hmeth' : T.vm.method? m = some meth := X.method'
  refine ⟨T.setFrames fs, ?_, .returned (some (.int 1)), hrun, hended, rfl, ⟨_, rfl⟩, hW, hframe⟩
  jvm_step X.here [X.here.top, hx, hb, hdg, hmeth', hr, ret, narrow_b1]
  (try refine ⟨rfl, ?_⟩); (try refine ⟨rfl, ?_⟩)
  first | (intro acts; rw [hret _ acts rfl rfl rfl]) | rw [hret _ _ rfl rfl rfl]
  exact Steps.refl _
/-- what holds at the law's entry: the machine, the code, the tables' words (any of lw_tbl by 'hts w (by decide +kernel)'), the script of L ints xs at the cell b, what the Statement gives of the start (any of its parts by flat_of_before) -/
def lw_At (p : Program) (s : State) (m : MethodId) (meth : Method) (c : Code) (b L : Nat) (xs : Nat → Int32) : Prop :=
  p.tables.exec = Jvm.exec ∧ c.code = code ∧ meth.sig.returnType = ret ∧ c.maxLocals = 7 ∧ s.vm.findClass R_law = some m.cls ∧ (∀ w ∈ lw_tbl, w.before #[Value.ref b] s = true) ∧ va_X b L xs s s.heap ∧ b < s.heap.size ∧ meth.locks = false ∧ (Jvm.Cond.and given_1 narrow_1).before #[Value.ref b] s = true
theorem cwl_X5_find {p : Program} {s : State} {m : MethodId} {args : Array Value} {meth : Method} {c : Code} {D : va_G} {tys : List (ClassId × FieldType)} (C : XC p room_1 s m args meth c cL_law 7 (some .boolean) RL wsL_law D tys) : CallW room_1 s args RL RX5 67 yX5_find cX5_find 5 (some .int) wsX5_find (rm_X5_find 0) 0 0 3 := cwV 3 C.2.2.2.2.1 gL_law_X5_find rfl rfl rfl (by decide +kernel) ⟨Nat.le_of_ble_eq_true rfl, Nat.le_of_ble_eq_true rfl⟩
theorem cwl_X5_add {p : Program} {s : State} {m : MethodId} {args : Array Value} {meth : Method} {c : Code} {D : va_G} {tys : List (ClassId × FieldType)} (C : XC p room_1 s m args meth c cL_law 7 (some .boolean) RL wsL_law D tys) : CallW room_1 s args RL RX5 26 yX5_add cX5_add 7 (some .int) wsX5_add (rm_X5_add 0) 0 0 4 := cwV 4 C.2.2.2.2.1 gL_law_X5_add rfl rfl rfl (by decide +kernel) ⟨Nat.le_of_ble_eq_true rfl, Nat.le_of_ble_eq_true rfl⟩
theorem cwl_X5_set {p : Program} {s : State} {m : MethodId} {args : Array Value} {meth : Method} {c : Code} {D : va_G} {tys : List (ClassId × FieldType)} (C : XC p room_1 s m args meth c cL_law 7 (some .boolean) RL wsL_law D tys) : CallW room_1 s args RL RX5 30 yX5_set cX5_set 7 (some .int) wsX5_set (rm_X5_set 0) 0 0 4 := cwV 4 C.2.2.2.2.1 gL_law_X5_set rfl rfl rfl (by decide +kernel) ⟨Nat.le_of_ble_eq_true rfl, Nat.le_of_ble_eq_true rfl⟩
theorem cwl_X5_changes {p : Program} {s : State} {m : MethodId} {args : Array Value} {meth : Method} {c : Code} {D : va_G} {tys : List (ClassId × FieldType)} (C : XC p room_1 s m args meth c cL_law 7 (some .boolean) RL wsL_law D tys) : CallW room_1 s args RL RX5 83 yX5_changes cX5_changes 1 (some .int) wsX5_changes rm_X5_changes 0 0 0 := cwV 0 C.2.2.2.2.1 gL_law_X5_changes rfl rfl rfl (by decide +kernel) ⟨Nat.le_of_ble_eq_true rfl, Nat.le_of_ble_eq_true rfl⟩
theorem cwl_X5_timeOf {p : Program} {s : State} {m : MethodId} {args : Array Value} {meth : Method} {c : Code} {D : va_G} {tys : List (ClassId × FieldType)} (C : XC p room_1 s m args meth c cL_law 7 (some .boolean) RL wsL_law D tys) : CallW room_1 s args RL RX5 44 yX5_timeOf cX5_timeOf 2 (some .int) wsX5_timeOf (rm_X5_timeOf 0) 0 0 1 := cwV 1 C.2.2.2.2.1 gL_law_X5_timeOf rfl rfl rfl (by decide +kernel) ⟨Nat.le_of_ble_eq_true rfl, Nat.le_of_ble_eq_true rfl⟩
theorem cwl_X5_carry {p : Program} {s : State} {m : MethodId} {args : Array Value} {meth : Method} {c : Code} {D : va_G} {tys : List (ClassId × FieldType)} (C : XC p room_1 s m args meth c cL_law 7 (some .boolean) RL wsL_law D tys) : CallW room_1 s args RL RX5 40 yX5_carry cX5_carry 4 (some .boolean) wsX5_carry (rm_X5_carry 0) 0 0 2 := cwV 2 C.2.2.2.2.1 gL_law_X5_carry rfl rfl rfl (by decide +kernel) ⟨Nat.le_of_ble_eq_true rfl, Nat.le_of_ble_eq_true rfl⟩
theorem cwl_L_masters {p : Program} {s : State} {m : MethodId} {args : Array Value} {meth : Method} {c : Code} {D : va_G} {tys : List (ClassId × FieldType)} (C : XC p room_1 s m args meth c cL_law 7 (some .boolean) RL wsL_law D tys) : CallB room_1 s args RL 124 yL_masters cL_masters 1 (some .boolean) wsL_masters rm_L_masters 939 6726 0 ∧ (Cond.static yL_masters).before args s = true := va_cwS 0 C.2.2.2.2.1 gL_law_L_masters rfl rfl rfl (by decide +kernel) ⟨Nat.le_of_ble_eq_true rfl, Nat.le_of_ble_eq_true rfl⟩
theorem cwl_L_searches {p : Program} {s : State} {m : MethodId} {args : Array Value} {meth : Method} {c : Code} {D : va_G} {tys : List (ClassId × FieldType)} (C : XC p room_1 s m args meth c cL_law 7 (some .boolean) RL wsL_law D tys) : CallB room_1 s args RL 127 yL_searches cL_searches 2 (some .boolean) wsL_searches rm_L_searches 487 4014 0 ∧ (Cond.static yL_searches).before args s = true := va_cwS 0 C.2.2.2.2.1 gL_law_L_searches rfl rfl rfl (by decide +kernel) ⟨Nat.le_of_ble_eq_true rfl, Nat.le_of_ble_eq_true rfl⟩
theorem cwl_L_refuses {p : Program} {s : State} {m : MethodId} {args : Array Value} {meth : Method} {c : Code} {D : va_G} {tys : List (ClassId × FieldType)} (C : XC p room_1 s m args meth c cL_law 7 (some .boolean) RL wsL_law D tys) : CallB room_1 s args RL 116 yL_refuses cL_refuses 21 (some .boolean) wsL_refuses rm_L_refuses 225 1350 3 ∧ (Cond.static yL_refuses).before args s = true := va_cwS 3 C.2.2.2.2.1 gL_law_L_refuses rfl rfl rfl (by decide +kernel) ⟨Nat.le_of_ble_eq_true rfl, Nat.le_of_ble_eq_true rfl⟩
theorem cwl_L_act_th {p : Program} {s : State} {m : MethodId} {args : Array Value} {meth : Method} {c : Code} {D : va_G} {tys : List (ClassId × FieldType)} (C : XC p room_1 s m args meth c cL_law 7 (some .boolean) RL wsL_law D tys) : vx_CSW room_1 s args RL 98 yL_act cL_act 7 (some .int) [(0, 289, 290, 13), (0, 289, 295, 15), (0, 289, 300, 17)] wsL_act (rm_L_act 1) 1 6 6 := vx_cwSW 6 C.2.2.2.2.1 gL_law_L_act rfl rfl rfl (by decide +kernel) ⟨Nat.le_of_ble_eq_true rfl, Nat.le_of_ble_eq_true rfl⟩
theorem cwl_X5_init {p : Program} {s : State} {m : MethodId} {args : Array Value} {meth : Method} {c : Code} {D : va_G} {tys : List (ClassId × FieldType)} (C : XC p room_1 s m args meth c cL_law 7 (some .boolean) RL wsL_law D tys) : CallB room_1 s args RL 111 yX5_init cX5_init 1 none wsX5_init rm_X5_init 32 1284 0 ∧ yX5_init.name = "<init>" ∧ (Cond.instanceMethod yX5_init).before args s = true := cwI 0 C.2.2.2.2.1 gL_law_X5_init rfl rfl rfl (C.2.2.2.2.1 _ (by decide +kernel)) (C.2.2.2.2.1 _ (by decide +kernel)) (C.2.2.2.2.1 _ (by decide +kernel)) rfl (by decide +kernel) ⟨Nat.le_of_ble_eq_true rfl, Nat.le_of_ble_eq_true rfl⟩
/-! THE LAW's BODY: its script -/
def LG (s : State) (b L : Nat) (xs : Nat → Int32) : Prop := va_X b L xs s s.heap ∧ b < s.heap.size ∧ XS (va_A [] s.heap.size) s s.heap ∧ NC s
theorem LG.out {s : State} {b L : Nat} {xs : Nat → Int32} (G : LG s b L xs) : ¬ va_A [] s.heap.size b := fun h => by
  rcases h with ⟨k, e, h⟩ | h
  · cases h
  · exact absurd G.2.1 (Nat.not_lt.mpr h)
section XRL
variable {p : Program} {l : Launch} {e : Env} {R : Room} {s : State} {m : MethodId} {below : List Frame} {meth : Method} {c : Code} {cc : ByteArray} {n : Nat} {ret : Option FieldType} {own : String} {Ts : List Cond} {D : va_G} {tys : List (ClassId × FieldType)} {Q : State → Prop} {w : va_W} {k j pc b L : Nat} {xs : Nat → Int32} {lv : List (Nat × Value)} {st : List Value}
theorem x_sld (C : XC p R s m #[Value.ref b] meth c cc n ret own Ts D tys) (G : LG s b L xs) {i v : Int32} (hi : vp_in i L) (hv : xs i.toNatClampNeg = v) (hd : decode cc pc = .ok (.iaload, 1)) (K : XW p l e R s m #[Value.ref b] below meth c D [] n Q w k j (pc + 1) lv (.int v :: st)) : XW p l e R s m #[Value.ref b] below meth c D [] n Q w k j pc lv (.int i :: .ref b :: st) :=
  fun H locs ls hP hD hS hl => va_sld C.1 C.2.1 G.1 G.2.1 G.out hS hi hd (by rw [hv]; exact K H locs ls hP hD hS hl)
theorem x_slen (C : XC p R s m #[Value.ref b] meth c cc n ret own Ts D tys) (G : LG s b L xs) (hd : decode cc pc = .ok (.arraylength, 1)) (K : XW p l e R s m #[Value.ref b] below meth c D [] n Q w k j (pc + 1) lv (.int (Int32.ofNat L) :: st)) : XW p l e R s m #[Value.ref b] below meth c D [] n Q w k j pc lv (.ref b :: st) :=
  fun H locs ls hP hD hS hl => va_slen C.1 C.2.1 G.1 G.2.1 G.out hS hd (K H locs ls hP hD hS hl)
end XRL
theorem nrem {a d : Nat} (ha : a < 2 ^ 31) (h0 : 0 < d) (hd : d < 2 ^ 31) : nI a - nI a / nI d * nI d = nI (a % d) := pk_rem ha h0 hd
theorem n_le0 {a : Nat} (ha : a < 2 ^ 31) (h : nI a ≤ 0) : a = 0 := by
  rcases Nat.eq_zero_or_pos a with q | q
  · exact q
  · exact absurd h (nI_nle q ha)
theorem n_eq0 {a : Nat} (ha : a < 2 ^ 31) (h : nI a = 0) : a = 0 := by
  rcases Nat.eq_zero_or_pos a with q | q
  · exact q
  · exact absurd h (nI_ne0 q ha)

set_option maxHeartbeats 4000000 in
set_option maxRecDepth 100000 in
theorem law_end {p : Program} {l : Launch} {e : Env} {s : State} {m : MethodId} {below : List Frame} {meth : Method} {c : Code} {D : va_G} {cI cZ cJ : ClassId} {b L : Nat} {xs : Nat → Int32} (C : XC p room_1 s m #[Value.ref b] meth c cL_law 7 (some .boolean) RL wsL_law D (t3 cI cZ cJ)) (G : LG s b L xs) (hfl : l.stackTraces = false) {w : va_W} {k j : Nat} {lv : List (Nat × Value)} (hk : k ≤ 622635) (hj : j ≤ 7233866) : XW p l e room_1 s m #[Value.ref b] below meth c D [] 7 (lw_Z below #[Value.ref b] s) w k j 269 lv [.int 1] := by
  intro H locs ls hP hD hS hl
  refine va_forget (fun q hq => ?_) ?_
  · rcases hS.2.2 q hq with ⟨k, e, h⟩ | h
    · cases h
    · exact h
  · exact W.widen hk hj (lw_ret C.1 C.2.1 C.2.2.2.2.2.2.2.1 C.2.2.2.2.2.2.2.2 dL_law_269)
/-! the last two questions -/
set_option maxHeartbeats 4000000 in
set_option maxRecDepth 100000 in
theorem law_last {p : Program} {l : Launch} {e : Env} {s : State} {m : MethodId} {below : List Frame} {meth : Method} {c : Code} {D : va_G} {cI cZ cJ : ClassId} {b L : Nat} {xs : Nat → Int32} {ad : Nat → Nat} {S : St} {kk jj : Nat} (C : XC p room_1 s m #[Value.ref b] meth c cL_law 7 (some .boolean) RL wsL_law D (t3 cI cZ cJ)) (G : LG s b L xs) (hfl : l.stackTraces = false) (h : LI 40 S) (hk : kk ≤ 600000) (hj : jj ≤ 7000000) : XW p l e room_1 s m #[Value.ref b] below meth c D [] 7 (lw_Z below #[Value.ref b] s) (wE cI cZ ad S (eo ad (ad 0) (ad 7) [])) kk jj 235 [(0, .ref b), (1, .ref (ad 32)), (2, .int (nI 40))] [] := by
  have h1 : X5_add S 0 0 48 0 = some (3, 0, S) := li_full_add h
  have h2 : X5_set S 0 0 0 0 = some (3, 0, S) := li_full_set h
  refine x_aload_n C 1 dL_law_235 rfl ?_
  refine x_iconst C (v := 0) dL_law_236 (by decide) ?_
  refine x_iconst C (v := 0) dL_law_237 (by decide) ?_
  refine x_iconst C (v := 0) dL_law_238 (by decide) ?_
  refine x_bipush C (v := 48) dL_law_239 (by decide) ?_
  refine x_iconst C (v := 0) dL_law_241 (by decide) ?_
  refine x_ci (mc := 1) (ms := 6) (x_runSW C G.2.2.1 G.2.2.2 (As := [.ref (ad 32), .int 0, .int 0, .int 0, .int 48, .int 0]) (rest := []) (c_L_act_add_th2 hfl h1) (cwl_L_act_th C) rfl (Nat.le_of_ble_eq_true rfl) dL_law_242 ⟨by show _ ≤ 622635; omega, by show _ ≤ 7233866; omega⟩) ?_
  refine x_bipush C (v := (-73)) dL_law_245 (by decide) ?_
  refine x_icmp_ne C (t := 268) dL_law_247 (by decide) (fun c9 => absurd rfl c9) (fun _ => ?_)
  refine x_aload_n C 1 dL_law_250 rfl ?_
  refine x_iconst C (v := 1) dL_law_251 (by decide) ?_
  refine x_iconst C (v := 0) dL_law_252 (by decide) ?_
  refine x_iconst C (v := 0) dL_law_253 (by decide) ?_
  refine x_iconst C (v := 0) dL_law_254 (by decide) ?_
  refine x_iconst C (v := 0) dL_law_255 (by decide) ?_
  refine x_ci (mc := 1) (ms := 6) (x_runSW C G.2.2.1 G.2.2.2 (As := [.ref (ad 32), .int 1, .int 0, .int 0, .int 0, .int 0]) (rest := []) (c_L_act_set_th2 hfl h2) (cwl_L_act_th C) rfl (Nat.le_of_ble_eq_true rfl) dL_law_256 ⟨by show _ ≤ 622635; omega, by show _ ≤ 7233866; omega⟩) ?_
  refine x_bipush C (v := (-73)) dL_law_259 (by decide) ?_
  refine x_icmp_ne C (t := 268) dL_law_261 (by decide) (fun c9 => absurd rfl c9) (fun _ => ?_)
  refine x_iconst C (v := 1) dL_law_264 (by decide) ?_
  refine x_goto C (t := 269) dL_law_265 (by decide) ?_
  exact law_end C G hfl (by omega) (by omega)
/-! behind the change: what is asked of it -/
set_option maxHeartbeats 4000000 in
set_option maxRecDepth 100000 in
theorem law_tail {p : Program} {l : Launch} {e : Env} {s : State} {m : MethodId} {below : List Frame} {meth : Method} {c : Code} {D : va_G} {cI cZ cJ : ClassId} {b L : Nat} {xs : Nat → Int32} {ad : Nat → Nat} {S : St} {k x fr g kk jj : Nat} {got : Int32} (C : XC p room_1 s m #[Value.ref b] meth c cL_law 7 (some .boolean) RL wsL_law D (t3 cI cZ cJ)) (G : LG s b L xs) (hfl : l.stackTraces = false) (hk40 : k < 40) (hx : x < 16777216) (hfr : fr ≤ 48) (hg : (fr < 48 ∧ 0 < x % 3 ∧ g = k + 3) ∨ (¬ (fr < 48 ∧ 0 < x % 3) ∧ g = k + 2)) (hgot : ¬ got < -1) (h : PO k (x % 2) g S) (hk : kk ≤ 600000) (hj : jj ≤ 7000000) (K : ∀ (S9 : St) (k9 j9 : Nat), LI (k + 1) S9 → k9 ≤ kk + 225 → j9 ≤ jj + 1350 → XW p l e room_1 s m #[Value.ref b] below meth c D [] 7 (lw_Z below #[Value.ref b] s) (wE cI cZ ad S9 (eo ad (ad 0) (ad 7) [])) k9 j9 24 [(0, .ref b), (1, .ref (ad 32)), (2, .int (nI (k + 1)))] []) : XW p l e room_1 s m #[Value.ref b] below meth c D [] 7 (lw_Z below #[Value.ref b] s) (wE cI cZ ad S (eo ad (ad 0) (ad 7) [])) kk jj 131 [(0, .ref b), (1, .ref (ad 32)), (2, .int (nI k)), (3, .int (nI x)), (4, .int (nI (x % 2))), (5, .int (nI fr))] [.int got] := by
  obtain ⟨hLI, ⟨t, t1, t2, ht⟩, hc0, ⟨v1, S1, hc1, hL1⟩, hr⟩ := h
  have hch := li_changes hLI
  have K229 : ∀ (S9 : St) (k9 j9 : Nat), LI (k + 1) S9 → k9 ≤ kk + 225 → j9 ≤ jj + 1350 → XW p l e room_1 s m #[Value.ref b] below meth c D [] 7 (lw_Z below #[Value.ref b] s) (wE cI cZ ad S9 (eo ad (ad 0) (ad 7) [])) k9 j9 229 [(0, .ref b), (1, .ref (ad 32)), (2, .int (nI k)), (3, .int (nI x)), (4, .int (nI (x % 2))), (5, .int (nI fr)), (6, .int got)] [] := fun S9 k9 j9 q1 q2 q3 => by
    refine x_iinc C 2 (v := nI (k + 1)) (lv' := [(0, .ref b), (1, .ref (ad 32)), (2, .int (nI (k + 1))), (3, .int (nI x)), (4, .int (nI (x % 2))), (5, .int (nI fr)), (6, .int got)]) dL_law_229 rfl (show nI k + 1 = nI (k + 1) from nI_add k 1) (by decide) rfl ?_
    refine x_goto C (t := 24) dL_law_232 (by decide) ?_
    refine x_locals (lv' := [(0, .ref b), (1, .ref (ad 32)), (2, .int (nI (k + 1)))]) [0, 1, 2] rfl ?_
    exact K S9 k9 j9 q1 q2 q3
  have K213 : ∀ (k9 j9 : Nat), k9 ≤ kk + 225 → j9 ≤ jj + 1350 → XW p l e room_1 s m #[Value.ref b] below meth c D [] 7 (lw_Z below #[Value.ref b] s) (wE cI cZ ad S (eo ad (ad 0) (ad 7) [])) k9 j9 213 [(0, .ref b), (1, .ref (ad 32)), (2, .int (nI k)), (3, .int (nI x)), (4, .int (nI (x % 2))), (5, .int (nI fr)), (6, .int got)] [] := fun k9 j9 q2 q3 => by
    refine x_iload_n C 3 dL_law_213 rfl ?_
    refine x_iconst C (v := 4) dL_law_214 (by decide) ?_
    refine x_irem C dL_law_215 (by decide) ?_
    refine x_topi (v' := nI (x % 4)) (nrem (d := 4) (by omega) (by decide) (by decide)) ?_
    refine x_if_le C (t := 229) dL_law_216 (by decide) (fun _ => K229 S k9 j9 hLI q2 q3) (fun _ => ?_)
    refine x_aload_n C 1 dL_law_219 rfl ?_
    refine x_iload_n C 2 dL_law_220 rfl ?_
    refine x_iconst C (v := 1) dL_law_221 (by decide) ?_
    refine x_iload C 4 dL_law_222 rfl ?_
    refine x_isub C dL_law_224 ?_
    refine x_topi (v' := nI (1 - x % 2)) (by rcases (show x % 2 = 0 ∨ x % 2 = 1 by omega) with q | q <;> rw [q] <;> decide) ?_
    refine x_ci0 (x_runV C (As := [.int (nI k), .int (nI (1 - x % 2))]) (rest := []) (c_X5_carry_ok hc1) (cwl_X5_carry C) 32 rfl rfl rfl (Nat.le_of_ble_eq_true rfl) dL_law_225 ⟨by show _ ≤ 622635; omega, by show _ ≤ 7233866; omega⟩) ?_
    refine x_pop C dL_law_228 rfl ?_
    exact K229 S1 k9 j9 hL1 q2 q3
  have K205 : g < 42 → XW p l e room_1 s m #[Value.ref b] below meth c D [] 7 (lw_Z below #[Value.ref b] s) (wE cI cZ ad S (eo ad (ad 0) (ad 7) [])) kk jj 205 [(0, .ref b), (1, .ref (ad 32)), (2, .int (nI k)), (3, .int (nI x)), (4, .int (nI (x % 2))), (5, .int (nI fr)), (6, .int got)] [.int (nI g), .int 0, .ref (ad 32)] := fun hg42 => by
    refine x_ci (mc := 225) (ms := 1350) (x_runSY C G.2.2.1 G.2.2.2 (As := [.ref (ad 32), .int (nI 0), .int (nI g)]) (rest := []) (c_L_refuses hfl (hr hg42)) (cwl_L_refuses C) rfl (Nat.le_of_ble_eq_true rfl) dL_law_205 ⟨by show _ ≤ 622635; omega, by show _ ≤ 7233866; omega⟩) ?_
    exact x_if_ne C (t := 213) dL_law_208 (by decide) (fun _ => K213 _ _ (Nat.le_refl _) (Nat.le_refl _)) (fun c9 => absurd c9 (by decide))
  have K174 : XW p l e room_1 s m #[Value.ref b] below meth c D [] 7 (lw_Z below #[Value.ref b] s) (wE cI cZ ad S (eo ad (ad 0) (ad 7) [])) kk jj 174 [(0, .ref b), (1, .ref (ad 32)), (2, .int (nI k)), (3, .int (nI x)), (4, .int (nI (x % 2))), (5, .int (nI fr)), (6, .int got)] [] := by
    refine x_iload_n C 2 dL_law_174 rfl ?_
    refine x_bipush C (v := 8) dL_law_175 (by decide) ?_
    refine x_irem C dL_law_177 (by decide) ?_
    refine x_topi (v' := nI (k % 8)) (nrem (d := 8) (by omega) (by decide) (by decide)) ?_
    refine x_if_ne C (t := 213) dL_law_178 (by decide) (fun _ => K213 kk jj (by omega) (by omega)) (fun c9 => ?_)
    have hk8 := n_eq0 (by omega) c9
    have K203 : g = k + 2 → XW p l e room_1 s m #[Value.ref b] below meth c D [] 7 (lw_Z below #[Value.ref b] s) (wE cI cZ ad S (eo ad (ad 0) (ad 7) [])) kk jj 203 [(0, .ref b), (1, .ref (ad 32)), (2, .int (nI k)), (3, .int (nI x)), (4, .int (nI (x % 2))), (5, .int (nI fr)), (6, .int got)] [.int (nI (k + 2)), .int 0, .ref (ad 32)] := fun e9 => by
      refine x_iconst C (v := 0) dL_law_203 (by decide) ?_
      refine x_iadd C dL_law_204 ?_
      refine x_topi (v' := nI g) (show nI (k + 2) + 0 = nI g by rw [e9]; exact nI_add (k + 2) 0) ?_
      exact K205 (by omega)
    refine x_aload_n C 1 dL_law_181 rfl ?_
    refine x_iconst C (v := 0) dL_law_182 (by decide) ?_
    refine x_iload_n C 2 dL_law_183 rfl ?_
    refine x_iconst C (v := 2) dL_law_184 (by decide) ?_
    refine x_iadd C dL_law_185 ?_
    refine x_topi (v' := nI (k + 2)) (show nI k + 2 = nI (k + 2) from nI_add k 2) ?_
    refine x_iload C 5 dL_law_186 rfl ?_
    refine x_bipush C (v := 48) dL_law_188 (by decide) ?_
    refine x_icmp_ge C (t := 203) dL_law_190 (by decide) (fun c8 => ?_) (fun c8 => ?_)
    · have h48 : ¬ fr < 48 := fun q => nI_ge (b := 48) q (by decide) c8
      exact K203 (hg.elim (fun q => absurd q.1 h48) (fun q => q.2))
    · have h48 : fr < 48 := by
        rcases Nat.lt_or_ge fr 48 with q | q
        · exact q
        · exact absurd (show (48 : Int32) ≤ nI fr from nI_le (a := 48) q (by omega)) c8
      refine x_iload_n C 3 dL_law_193 rfl ?_
      refine x_iconst C (v := 3) dL_law_194 (by decide) ?_
      refine x_irem C dL_law_195 (by decide) ?_
      refine x_topi (v' := nI (x % 3)) (nrem (d := 3) (by omega) (by decide) (by decide)) ?_
      refine x_if_le C (t := 203) dL_law_196 (by decide) (fun c7 => ?_) (fun c7 => ?_)
      · have h3 := n_le0 (a := x % 3) (by omega) c7
        exact K203 (hg.elim (fun q => absurd q.2.1 (by omega)) (fun q => q.2))
      · have h3 : 0 < x % 3 := by
          rcases Nat.eq_zero_or_pos (x % 3) with q | q
          · rw [q] at c7
            exact absurd c7 (by decide)
          · exact q
        have e9 : g = k + 3 := hg.elim (fun q => q.2.2) (fun q => absurd ⟨h48, h3⟩ q.1)
        refine x_iconst C (v := 1) dL_law_199 (by decide) ?_
        refine x_goto C (t := 204) dL_law_200 (by decide) ?_
        refine x_iadd C dL_law_204 ?_
        refine x_topi (v' := nI g) (show nI (k + 2) + 1 = nI g by rw [e9]; exact nI_add (k + 2) 1) ?_
        exact K205 (by omega)
  refine x_istore C (lv' := [(0, .ref b), (1, .ref (ad 32)), (2, .int (nI k)), (3, .int (nI x)), (4, .int (nI (x % 2))), (5, .int (nI fr)), (6, .int got)]) dL_law_131 (by decide) rfl ?_
  refine x_iload C 6 dL_law_133 rfl ?_
  refine x_iconst C (v := (-1)) dL_law_135 (by decide) ?_
  refine x_icmp_lt C (t := 211) dL_law_136 (by decide) (fun c9 => absurd c9 hgot) (fun _ => ?_)
  refine x_aload_n C 1 dL_law_139 rfl ?_
  refine x_ci0 (x_runV C (As := []) (rest := []) (c_X5_changes hch) (cwl_X5_changes C) 32 rfl rfl rfl (Nat.le_of_ble_eq_true rfl) dL_law_140 ⟨by show _ ≤ 622635; omega, by show _ ≤ 7233866; omega⟩) ?_
  refine x_iload_n C 2 dL_law_143 rfl ?_
  refine x_iconst C (v := 1) dL_law_144 (by decide) ?_
  refine x_iadd C dL_law_145 ?_
  refine x_topi (v' := nI (k + 1)) (show nI k + 1 = nI (k + 1) from nI_add k 1) ?_
  refine x_icmp_ne C (t := 211) dL_law_146 (by decide) (fun c9 => absurd rfl c9) (fun _ => ?_)
  refine x_aload_n C 1 dL_law_149 rfl ?_
  refine x_iload_n C 2 dL_law_150 rfl ?_
  refine x_ci0 (x_runV C (As := [.int (nI k)]) (rest := []) (c_X5_timeOf_ok ht) (cwl_X5_timeOf C) 32 rfl rfl rfl (Nat.le_of_ble_eq_true rfl) dL_law_151 ⟨by show _ ≤ 622635; omega, by show _ ≤ 7233866; omega⟩) ?_
  refine x_iconst C (v := 1) dL_law_154 (by decide) ?_
  refine x_icmp_lt C (t := 211) dL_law_155 (by decide) (fun c9 => absurd c9 (nI_nlt (b := 1) t1 (by omega))) (fun _ => ?_)
  refine x_iload_n C 3 dL_law_158 rfl ?_
  refine x_iconst C (v := 5) dL_law_159 (by decide) ?_
  refine x_irem C dL_law_160 (by decide) ?_
  refine x_topi (v' := nI (x % 5)) (nrem (d := 5) (by omega) (by decide) (by decide)) ?_
  refine x_if_ne C (t := 174) dL_law_161 (by decide) (fun _ => K174) (fun _ => ?_)
  refine x_aload_n C 1 dL_law_164 rfl ?_
  refine x_iload_n C 2 dL_law_165 rfl ?_
  refine x_iload C 4 dL_law_166 rfl ?_
  refine x_ci0 (x_runV C (As := [.int (nI k), .int (nI (x % 2))]) (rest := []) (c_X5_carry_ok hc0) (cwl_X5_carry C) 32 rfl rfl rfl (Nat.le_of_ble_eq_true rfl) dL_law_168 ⟨by show _ ≤ 622635; omega, by show _ ≤ 7233866; omega⟩) ?_
  exact x_if_ne C (t := 211) dL_law_171 (by decide) (fun c9 => absurd rfl c9) (fun _ => K174)
/-! the change itself -/
set_option maxHeartbeats 4000000 in
set_option maxRecDepth 100000 in
theorem law_mid {p : Program} {l : Launch} {e : Env} {s : State} {m : MethodId} {below : List Frame} {meth : Method} {c : Code} {D : va_G} {cI cZ cJ : ClassId} {b L : Nat} {xs : Nat → Int32} {ad : Nat → Nat} {S : St} {k x fr kk jj : Nat} (C : XC p room_1 s m #[Value.ref b] meth c cL_law 7 (some .boolean) RL wsL_law D (t3 cI cZ cJ)) (G : LG s b L xs) (hfl : l.stackTraces = false) (hk40 : k < 40) (hx : x < 16777216) (hfr : fr ≤ 48) (hLI : LI k S) (hadd : fr < 48 → ∀ i, i < 3 → k < 40 → ∃ S', X5_add S (nI (x % 2)) (nI 0) (nI fr) (nI i) = some (0, nI (k + 2), S') ∧ PO k (x % 2) (k + 3) S') (hk : kk ≤ 600000) (hj : jj ≤ 7000000) (K : ∀ (S9 : St) (k9 j9 : Nat), LI (k + 1) S9 → k9 ≤ kk + 225 → j9 ≤ jj + 1350 → XW p l e room_1 s m #[Value.ref b] below meth c D [] 7 (lw_Z below #[Value.ref b] s) (wE cI cZ ad S9 (eo ad (ad 0) (ad 7) [])) k9 j9 24 [(0, .ref b), (1, .ref (ad 32)), (2, .int (nI (k + 1)))] []) : XW p l e room_1 s m #[Value.ref b] below meth c D [] 7 (lw_Z below #[Value.ref b] s) (wE cI cZ ad S (eo ad (ad 0) (ad 7) [])) kk jj 85 [(0, .ref b), (1, .ref (ad 32)), (2, .int (nI k)), (3, .int (nI x)), (4, .int (nI (x % 2))), (5, .int (nI fr))] [] := by
  have K113 : ¬ (fr < 48 ∧ 0 < x % 3) → XW p l e room_1 s m #[Value.ref b] below meth c D [] 7 (lw_Z below #[Value.ref b] s) (wE cI cZ ad S (eo ad (ad 0) (ad 7) [])) kk jj 113 [(0, .ref b), (1, .ref (ad 32)), (2, .int (nI k)), (3, .int (nI x)), (4, .int (nI (x % 2))), (5, .int (nI fr))] [] := fun hno => by
    obtain ⟨v0, S1, hs, hv0, hP⟩ := li_set (k := k) (m := x % 2) (e := x / 2 % 2) (w := x % 4) (v := x % 10) hLI (by omega) (by omega) (by omega) (by omega) hk40
    refine x_aload_n C 1 dL_law_113 rfl ?_
    refine x_iload C 4 dL_law_114 rfl ?_
    refine x_iload_n C 3 dL_law_116 rfl ?_
    refine x_iconst C (v := 2) dL_law_117 (by decide) ?_
    refine x_idiv C dL_law_118 (by decide) ?_
    refine x_topi (v' := nI (x / 2)) (show nI x / 2 = nI (x / 2) from pk_div (d := 2) (by omega) (by decide) (by decide)) ?_
    refine x_iconst C (v := 2) dL_law_119 (by decide) ?_
    refine x_irem C dL_law_120 (by decide) ?_
    refine x_topi (v' := nI (x / 2 % 2)) (nrem (d := 2) (by omega) (by decide) (by decide)) ?_
    refine x_iload_n C 3 dL_law_121 rfl ?_
    refine x_iconst C (v := 4) dL_law_122 (by decide) ?_
    refine x_irem C dL_law_123 (by decide) ?_
    refine x_topi (v' := nI (x % 4)) (nrem (d := 4) (by omega) (by decide) (by decide)) ?_
    refine x_iload_n C 3 dL_law_124 rfl ?_
    refine x_bipush C (v := 10) dL_law_125 (by decide) ?_
    refine x_irem C dL_law_127 (by decide) ?_
    refine x_topi (v' := nI (x % 10)) (nrem (d := 10) (by omega) (by decide) (by decide)) ?_
    refine x_ci0 (x_runV C (As := [.int (nI (x % 2)), .int (nI (x / 2 % 2)), .int (nI (x % 4)), .int (nI (x % 10))]) (rest := []) (c_X5_set_ok hs) (cwl_X5_set C) 32 rfl rfl rfl (Nat.le_of_ble_eq_true rfl) dL_law_128 ⟨by show _ ≤ 622635; omega, by show _ ≤ 7233866; omega⟩) ?_
    exact law_tail (g := k + 2) C G hfl hk40 hx hfr (.inr ⟨hno, rfl⟩) hv0 hP hk hj K
  refine x_iload C 5 dL_law_85 rfl ?_
  refine x_bipush C (v := 48) dL_law_87 (by decide) ?_
  refine x_icmp_ge C (t := 113) dL_law_89 (by decide) (fun c8 => ?_) (fun c8 => ?_)
  · have h48 : ¬ fr < 48 := fun q => nI_ge (b := 48) q (by decide) c8
    exact K113 (fun q => h48 q.1)
  · have h48 : fr < 48 := by
      rcases Nat.lt_or_ge fr 48 with q | q
      · exact q
      · exact absurd (show (48 : Int32) ≤ nI fr from nI_le (a := 48) q (by omega)) c8
    refine x_iload_n C 3 dL_law_92 rfl ?_
    refine x_iconst C (v := 3) dL_law_93 (by decide) ?_
    refine x_irem C dL_law_94 (by decide) ?_
    refine x_topi (v' := nI (x % 3)) (nrem (d := 3) (by omega) (by decide) (by decide)) ?_
    refine x_if_le C (t := 113) dL_law_95 (by decide) (fun c7 => ?_) (fun c7 => ?_)
    · have h3 := n_le0 (a := x % 3) (by omega) c7
      exact K113 (fun q => absurd q.2 (by omega))
    · have h3 : 0 < x % 3 := by
        rcases Nat.eq_zero_or_pos (x % 3) with q | q
        · rw [q] at c7
          exact absurd c7 (by decide)
        · exact q
      obtain ⟨S1, hs, hP⟩ := hadd h48 (x % 3) (by omega) hk40
      refine x_aload_n C 1 dL_law_98 rfl ?_
      refine x_iload C 4 dL_law_99 rfl ?_
      refine x_iconst C (v := 0) dL_law_101 (by decide) ?_
      refine x_iload C 5 dL_law_102 rfl ?_
      refine x_iload_n C 3 dL_law_104 rfl ?_
      refine x_iconst C (v := 3) dL_law_105 (by decide) ?_
      refine x_irem C dL_law_106 (by decide) ?_
      refine x_topi (v' := nI (x % 3)) (nrem (d := 3) (by omega) (by decide) (by decide)) ?_
      have hs' : X5_add S (nI (x % 2)) 0 (nI fr) (nI (x % 3)) = some (0, nI (k + 2), S1) := hs
      refine x_ci0 (x_runV C (As := [.int (nI (x % 2)), .int 0, .int (nI fr), .int (nI (x % 3))]) (rest := []) (c_X5_add_ok hs') (cwl_X5_add C) 32 rfl rfl rfl (Nat.le_of_ble_eq_true rfl) dL_law_107 ⟨by show _ ≤ 622635; omega, by show _ ≤ 7233866; omega⟩) ?_
      refine x_goto C (t := 131) dL_law_110 (by decide) ?_
      have hnl : ¬ nI (k + 2) < -1 := fun q => by
        have e1 : (nI (k + 2)).toInt = ((k + 2 : Nat) : Int) := nI_toInt (by omega)
        have e2 : (-1 : Int32).toInt = -1 := rfl
        rw [Int32.lt_iff_toInt_lt] at q
        omega
      exact law_tail (g := k + 3) C G hfl hk40 hx hfr (.inl ⟨h48, h3, rfl⟩) hnl hP hk hj K
/-! a free label is looked for -/
set_option maxHeartbeats 4000000 in
set_option maxRecDepth 100000 in
theorem law_inner {p : Program} {l : Launch} {e : Env} {s : State} {m : MethodId} {below : List Frame} {meth : Method} {c : Code} {D : va_G} {cI cZ cJ : ClassId} {b L : Nat} {xs : Nat → Int32} {ad : Nat → Nat} {S : St} {k x kk jj : Nat} (C : XC p room_1 s m #[Value.ref b] meth c cL_law 7 (some .boolean) RL wsL_law D (t3 cI cZ cJ)) (G : LG s b L xs) (hfl : l.stackTraces = false) (hk40 : k < 40) (hx : x < 16777216) (hLI : LI k S) (hk : kk ≤ 600000) (hj : jj ≤ 7000000) (K : ∀ (S9 : St) (k9 j9 : Nat), LI (k + 1) S9 → k9 ≤ kk + 225 → j9 ≤ jj + 1350 → XW p l e room_1 s m #[Value.ref b] below meth c D [] 7 (lw_Z below #[Value.ref b] s) (wE cI cZ ad S9 (eo ad (ad 0) (ad 7) [])) k9 j9 24 [(0, .ref b), (1, .ref (ad 32)), (2, .int (nI (k + 1)))] []) : ∀ n fr, fr + n = 48 → XW p l e room_1 s m #[Value.ref b] below meth c D [] 7 (lw_Z below #[Value.ref b] s) (wE cI cZ ad S (eo ad (ad 0) (ad 7) [])) kk jj 60 [(0, .ref b), (1, .ref (ad 32)), (2, .int (nI k)), (3, .int (nI x)), (4, .int (nI (x % 2))), (5, .int (nI fr))] [] := by
  intro n
  induction n with
  | zero =>
    intro fr hfr
    have hm : x % 2 < 2 := by omega
    refine x_aload_n C 1 dL_law_60 rfl ?_
    refine x_iload C 4 dL_law_61 rfl ?_
    refine x_iconst C (v := 0) dL_law_63 (by decide) ?_
    refine x_iload C 5 dL_law_64 rfl ?_
    rcases li_find (fr := fr) hLI hm (by omega) with ⟨z, hz, hf⟩ | ⟨hf, ha⟩
    · have hf' : X5_find S (nI (x % 2)) 0 (nI fr) = some (0, nI z) := hf
      refine x_ci0 (x_runV C (As := [.int (nI (x % 2)), .int 0, .int (nI fr)]) (rest := []) (c_X5_find_ok hf') (cwl_X5_find C) 32 rfl rfl rfl (Nat.le_of_ble_eq_true rfl) dL_law_66 ⟨by show _ ≤ 622635; omega, by show _ ≤ 7233866; omega⟩) ?_
      refine x_if_lt C (t := 85) dL_law_69 (by decide) (fun c9 => absurd c9 (nI_pos (by omega))) (fun _ => ?_)
      refine x_iload C 5 dL_law_72 rfl ?_
      refine x_bipush C (v := 48) dL_law_74 (by decide) ?_
      refine x_icmp_ge C (t := 85) dL_law_76 (by decide) (fun _ => ?_) (fun c9 => ?_)
      · exact law_mid C G hfl hk40 hx (by omega) hLI (fun q => absurd q (by omega)) hk hj K
      · exact absurd (show (48 : Int32) ≤ nI fr from nI_le (a := 48) (by omega) (by omega)) c9
    · have hf' : X5_find S (nI (x % 2)) 0 (nI fr) = some (0, -1) := hf
      refine x_ci0 (x_runV C (As := [.int (nI (x % 2)), .int 0, .int (nI fr)]) (rest := []) (c_X5_find_ok hf') (cwl_X5_find C) 32 rfl rfl rfl (Nat.le_of_ble_eq_true rfl) dL_law_66 ⟨by show _ ≤ 622635; omega, by show _ ≤ 7233866; omega⟩) ?_
      refine x_if_lt C (t := 85) dL_law_69 (by decide) (fun _ => ?_) (fun c9 => absurd c9 (by decide))
      exact law_mid C G hfl hk40 hx (by omega) hLI (fun _ => ha) hk hj K
  | succ n ih =>
    intro fr hfr
    have hm : x % 2 < 2 := by omega
    refine x_aload_n C 1 dL_law_60 rfl ?_
    refine x_iload C 4 dL_law_61 rfl ?_
    refine x_iconst C (v := 0) dL_law_63 (by decide) ?_
    refine x_iload C 5 dL_law_64 rfl ?_
    rcases li_find (fr := fr) hLI hm (by omega) with ⟨z, hz, hf⟩ | ⟨hf, ha⟩
    · have hf' : X5_find S (nI (x % 2)) 0 (nI fr) = some (0, nI z) := hf
      refine x_ci0 (x_runV C (As := [.int (nI (x % 2)), .int 0, .int (nI fr)]) (rest := []) (c_X5_find_ok hf') (cwl_X5_find C) 32 rfl rfl rfl (Nat.le_of_ble_eq_true rfl) dL_law_66 ⟨by show _ ≤ 622635; omega, by show _ ≤ 7233866; omega⟩) ?_
      refine x_if_lt C (t := 85) dL_law_69 (by decide) (fun c9 => absurd c9 (nI_pos (by omega))) (fun _ => ?_)
      refine x_iload C 5 dL_law_72 rfl ?_
      refine x_bipush C (v := 48) dL_law_74 (by decide) ?_
      refine x_icmp_ge C (t := 85) dL_law_76 (by decide) (fun c9 => absurd c9 (nI_ge (b := 48) (by omega) (by decide))) (fun _ => ?_)
      refine x_iinc C 5 (v := nI (fr + 1)) (lv' := [(0, .ref b), (1, .ref (ad 32)), (2, .int (nI k)), (3, .int (nI x)), (4, .int (nI (x % 2))), (5, .int (nI (fr + 1)))]) dL_law_79 rfl (show nI fr + 1 = nI (fr + 1) from nI_add fr 1) (by decide) rfl ?_
      refine x_goto C (t := 60) dL_law_82 (by decide) ?_
      exact ih (fr + 1) (by omega)
    · have hf' : X5_find S (nI (x % 2)) 0 (nI fr) = some (0, -1) := hf
      refine x_ci0 (x_runV C (As := [.int (nI (x % 2)), .int 0, .int (nI fr)]) (rest := []) (c_X5_find_ok hf') (cwl_X5_find C) 32 rfl rfl rfl (Nat.le_of_ble_eq_true rfl) dL_law_66 ⟨by show _ ≤ 622635; omega, by show _ ≤ 7233866; omega⟩) ?_
      refine x_if_lt C (t := 85) dL_law_69 (by decide) (fun _ => ?_) (fun c9 => absurd c9 (by decide))
      exact law_mid C G hfl hk40 hx (by omega) hLI (fun _ => ha) hk hj K
/-! one step of the law's loop, out of the int that is drawn -/
set_option maxHeartbeats 4000000 in
set_option maxRecDepth 100000 in
theorem law_drawn {p : Program} {l : Launch} {e : Env} {s : State} {m : MethodId} {below : List Frame} {meth : Method} {c : Code} {D : va_G} {cI cZ cJ : ClassId} {b L : Nat} {xs : Nat → Int32} {ad : Nat → Nat} {S : St} {k x kk jj : Nat} (C : XC p room_1 s m #[Value.ref b] meth c cL_law 7 (some .boolean) RL wsL_law D (t3 cI cZ cJ)) (G : LG s b L xs) (hfl : l.stackTraces = false) (hk40 : k < 40) (hx : x < 16777216) (hLI : LI k S) (hk : kk ≤ 600000) (hj : jj ≤ 7000000) (K : ∀ (S9 : St) (k9 j9 : Nat), LI (k + 1) S9 → k9 ≤ kk + 225 → j9 ≤ jj + 1350 → XW p l e room_1 s m #[Value.ref b] below meth c D [] 7 (lw_Z below #[Value.ref b] s) (wE cI cZ ad S9 (eo ad (ad 0) (ad 7) [])) k9 j9 24 [(0, .ref b), (1, .ref (ad 32)), (2, .int (nI (k + 1)))] []) : XW p l e room_1 s m #[Value.ref b] below meth c D [] 7 (lw_Z below #[Value.ref b] s) (wE cI cZ ad S (eo ad (ad 0) (ad 7) [])) kk jj 51 [(0, .ref b), (1, .ref (ad 32)), (2, .int (nI k))] [.int (nI x)] := by
  refine x_istore_n C (lv' := [(0, .ref b), (1, .ref (ad 32)), (2, .int (nI k)), (3, .int (nI x))]) dL_law_51 (by decide) rfl ?_
  refine x_iload_n C 3 dL_law_52 rfl ?_
  refine x_iconst C (v := 2) dL_law_53 (by decide) ?_
  refine x_irem C dL_law_54 (by decide) ?_
  refine x_topi (v' := nI (x % 2)) (nrem (d := 2) (by omega) (by decide) (by decide)) ?_
  refine x_istore C (lv' := [(0, .ref b), (1, .ref (ad 32)), (2, .int (nI k)), (3, .int (nI x)), (4, .int (nI (x % 2)))]) dL_law_55 (by decide) rfl ?_
  refine x_iconst C (v := nI 0) dL_law_57 (by decide) ?_
  refine x_istore C (lv' := [(0, .ref b), (1, .ref (ad 32)), (2, .int (nI k)), (3, .int (nI x)), (4, .int (nI (x % 2))), (5, .int (nI 0))]) dL_law_58 (by decide) rfl ?_
  exact law_inner C G hfl hk40 hx hLI hk hj K 48 0 rfl
set_option maxHeartbeats 4000000 in
set_option maxRecDepth 100000 in
theorem law_loop {p : Program} {l : Launch} {e : Env} {s : State} {m : MethodId} {below : List Frame} {meth : Method} {c : Code} {D : va_G} {cI cZ cJ : ClassId} {b L : Nat} {xs : Nat → Int32} {ad : Nat → Nat} (C : XC p room_1 s m #[Value.ref b] meth c cL_law 7 (some .boolean) RL wsL_law D (t3 cI cZ cJ)) (G : LG s b L xs) (hfl : l.stackTraces = false) (hL : L ≤ 260) : ∀ (n k : Nat) (S : St) (kk jj : Nat), k + n = 40 → LI k S → kk ≤ 1459 + 225 * k → jj ≤ 12030 + 1350 * k → XW p l e room_1 s m #[Value.ref b] below meth c D [] 7 (lw_Z below #[Value.ref b] s) (wE cI cZ ad S (eo ad (ad 0) (ad 7) [])) kk jj 24 [(0, .ref b), (1, .ref (ad 32)), (2, .int (nI k))] [] := by
  intro n
  induction n with
  | zero =>
    intro k S kk jj hn hLI hk hj
    have e40 : k = 40 := by omega
    subst e40
    refine x_iload_n C 2 dL_law_24 rfl ?_
    refine x_bipush C (v := 40) dL_law_25 (by decide) ?_
    exact x_icmp_ge C (t := 235) dL_law_27 (by decide) (fun _ => law_last C G hfl hLI (by omega) (by omega)) (fun c9 => absurd (by decide) c9)
  | succ n ih =>
    intro k S kk jj hn hLI hk hj
    have hk40 : k < 40 := by omega
    have K : ∀ (S9 : St) (k9 j9 : Nat), LI (k + 1) S9 → k9 ≤ kk + 225 → j9 ≤ jj + 1350 → XW p l e room_1 s m #[Value.ref b] below meth c D [] 7 (lw_Z below #[Value.ref b] s) (wE cI cZ ad S9 (eo ad (ad 0) (ad 7) [])) k9 j9 24 [(0, .ref b), (1, .ref (ad 32)), (2, .int (nI (k + 1)))] [] := fun S9 k9 j9 q1 q2 q3 => ih (k + 1) S9 k9 j9 (by omega) q1 (by omega) (by omega)
    refine x_iload_n C 2 dL_law_24 rfl ?_
    refine x_bipush C (v := 40) dL_law_25 (by decide) ?_
    refine x_icmp_ge C (t := 235) dL_law_27 (by decide) (fun c9 => absurd c9 (ge40 hk40)) (fun _ => ?_)
    refine x_aload_n C 0 dL_law_30 rfl ?_
    refine x_slen C G dL_law_31 ?_
    refine x_if_ne C (t := 42) dL_law_32 (by decide) (fun c9 => ?_) (fun _ => ?_)
    · have hL0 : 0 < L := by
        rcases Nat.eq_zero_or_pos L with q | q
        · rw [q] at c9
          exact absurd rfl c9
        · exact q
      have hmod : k % L < L := Nat.mod_lt _ hL0
      refine x_aload_n C 0 dL_law_42 rfl ?_
      refine x_iload_n C 2 dL_law_43 rfl ?_
      refine x_aload_n C 0 dL_law_44 rfl ?_
      refine x_slen C G dL_law_45 ?_
      refine x_irem C dL_law_46 c9 ?_
      refine x_topi (v' := nI (k % L)) (nrem (d := L) (by omega) hL0 (by omega)) ?_
      refine x_sld C G (vp_in_nI hmod (by omega)) rfl dL_law_47 ?_
      obtain ⟨q, hq, eq⟩ := ush_nat (xs (nI (k % L)).toNatClampNeg)
      refine x_bipush C (v := 8) dL_law_48 (by decide) ?_
      refine x_iushr C (v := nI q) dL_law_50 eq ?_
      exact law_drawn C G hfl hk40 hq hLI (by omega) (by omega) K
    · refine x_bipush C (v := nI 13) dL_law_35 (by decide) ?_
      refine x_iload_n C 2 dL_law_37 rfl ?_
      refine x_imul C dL_law_38 ?_
      refine x_topi (v' := nI (13 * k)) (pk_mul ..) ?_
      refine x_goto C (t := 51) dL_law_39 (by decide) ?_
      exact law_drawn C G hfl hk40 (by omega) hLI (by omega) (by omega) K
