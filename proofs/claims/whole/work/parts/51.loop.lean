/-! THE CLAIM OUT OF ONE WALK OF THE LAW'S BODY. Your part is whole_start (and what it stands on); all else here is the same for every law, but numbers. -/
def R_law : String := "EntryMastersLaw"
def lw_P (b : Addr) (xs : List Int32) (args : Array Value) (s : State) : Prop := args = #[.ref b] ∧ s.IntsAt b xs ∧ xs.length ≤ 3584 ∧ (Jvm.Cond.and given_1 narrow_1).before args s = true
def lw_Q (_ : Array Value) (s : State) (o : Outcome) (t : State) : Prop := o = .returned (some (.int 1)) ∧ Framed s o t [] 1094 10825
def lw_Z (below : List Frame) (a : Array Value) (s : State) : State → Prop := fun t => ∃ o, t.status = .running ∧ Ended t below o ∧ lw_Q a s o t
/-- the law's own end, with 1 on the stack, nothing written that was there before, its room as the claim has it -/
theorem lw_ret {p : Program} {l : Launch} {e : Env} {s : State} {m : MethodId} {below : List Frame} {meth : Method} {c : Code} {b : Nat} (hx : p.tables.exec = Jvm.exec) (hb : c.code = code) (hr : meth.sig.returnType = ret) (hlocks : meth.locks = false) {pc : Nat} {H : Heap} {ls : Array Slot} (hdg : decode code pc = .ok (.ireturn, 1)) : W p l e room_1 s m #[Value.ref b] below meth c H [] 1094 10825 (lw_Z below #[Value.ref b] s) (F0 m pc ls [.int 1]) := by
  intro T hT X
  obtain ⟨fs, hret, hrun, hended, hW, hframe⟩ := X.leave (v := some (.int 1)) (hlocks := hlocks) (fun h => by rw [hr] at h; cases h)
  have hmeth' : T.vm.method? m = some meth := X.method'
  refine ⟨T.setFrames fs, ?_, .returned (some (.int 1)), hrun, hended, rfl, ⟨_, rfl⟩, hW, hframe⟩
  jvm_step X.here [X.here.top, hx, hb, hdg, hmeth', hr, ret, narrow_b1]
  (try refine ⟨rfl, ?_⟩); (try refine ⟨rfl, ?_⟩)
  first | (intro acts; rw [hret _ acts rfl rfl rfl]) | rw [hret _ _ rfl rfl rfl]
  exact Steps.refl _
/-- what holds at the law's entry: the machine, the code, the tables' words (any of lw_tbl by 'hts w (by decide +kernel)'), the script of L ints xs at the cell b, what the Statement gives of the start (any of its parts by flat_of_before) -/
def lw_At (p : Program) (s : State) (m : MethodId) (meth : Method) (c : Code) (b L : Nat) (xs : Nat → Int32) : Prop :=
  p.tables.exec = Jvm.exec ∧ c.code = code ∧ meth.sig.returnType = ret ∧ c.maxLocals = 7 ∧ s.vm.findClass R_law = some m.cls ∧ (∀ w ∈ lw_tbl, w.before #[Value.ref b] s = true) ∧ va_X b L xs s s.heap ∧ b < s.heap.size ∧ meth.locks = false ∧ (Jvm.Cond.and given_1 narrow_1).before #[Value.ref b] s = true

/-! THE LAW's LOOP -/
theorem law_end {p : Program} {l : Launch} {e : Env} {s : State} {m : MethodId} {below : List Frame} {meth : Method} {c : Code} {D : va_G} {cI cZ cJ : ClassId} {b : Nat} (C : XC p room_1 s m #[Value.ref b] meth c cL_law 7 (some .boolean) RL wsL_law D (t3 cI cZ cJ)) {w : va_W} {k j : Nat} {lv : List (Nat × Value)} (hk : k ≤ 1094) (hj : j ≤ 10825) : XW p l e room_1 s m #[Value.ref b] below meth c D [] 7 (lw_Z below #[Value.ref b] s) w k j 1695 lv [] := by
  refine x_iconst C (v := 1) dL_law_1695 (by decide) ?_
  intro H locs ls hP hD hS hl
  refine va_forget (fun q hq => ?_) ?_
  · rcases hS.2.2 q hq with ⟨k, e, h⟩ | h
    · cases h
    · exact h
  · exact W.widen hk hj (lw_ret C.1 C.2.1 C.2.2.2.2.2.2.2.1 C.2.2.2.2.2.2.2.2 dL_law_1696)
theorem lp_in {L t : Nat} (hL : L ≤ 3584) (ht : 7 * t ≤ L) (h : ¬ Int32.ofNat L - 7 < nI (7 * t)) : 7 * t + 7 ≤ L := by
  by_cases h7 : 7 ≤ L
  · have e : Int32.ofNat L - 7 = nI (L - 7) := by
      have e1 : Int32.ofNat L = nI (L - 7) + nI 7 := by rw [nI_add, Nat.sub_add_cancel h7]; rfl
      rw [e1]
      exact Int32.add_sub_cancel (nI (L - 7)) 7
    rw [e] at h
    rcases Nat.lt_or_ge (L - 7) (7 * t) with g | g
    · exact absurd (nI_lt g (by omega)) h
    · omega
  · exfalso
    apply h
    have ht0 : t = 0 := by omega
    subst ht0
    rcases (show L = 0 ∨ L = 1 ∨ L = 2 ∨ L = 3 ∨ L = 4 ∨ L = 5 ∨ L = 6 by omega) with rfl | rfl | rfl | rfl | rfl | rfl | rfl <;> decide
theorem lp_gt {L t q : Nat} (hL : L ≤ 3584) (hq : q < 7) (h : 7 * t + 7 ≤ L) : vp_in (nI (7 * t) + nI q) L := by
  rw [nI_add]
  exact vp_in_nI (by omega) (by omega)
set_option maxHeartbeats 4000000 in
theorem law_loop {p : Program} {l : Launch} {e : Env} {s : State} {m : MethodId} {below : List Frame} {meth : Method} {c : Code} {D : va_G} {cI cZ cJ : ClassId} {b L : Nat} {xs : Nat → Int32} {ad am : Nat → Nat} {ao : Nat} (C : XC p room_1 s m #[Value.ref b] meth c cL_law 7 (some .boolean) RL wsL_law D (t3 cI cZ cJ)) (G : LG s b L xs) (hfl : l.stackTraces = false) (hL : L ≤ 3584) : ∀ (n t : Nat) (S M : St) (fo : Nat → Int64) (kk jj : Nat), L ≤ 7 * t + n → 7 * t ≤ L → INV 0 S M → kk ≤ 58 + t → jj ≤ 2561 + 6 * t → XW p l e room_1 s m #[Value.ref b] below meth c D [] 7 (lw_Z below #[Value.ref b] s) (wE cI cZ ad S (eo ad (ad 0) (ad 7) (oc ao cJ fo (wM cI cZ am M [])))) kk jj 23 [(0, .ref b), (1, .ref (ad 32)), (2, .ref (am 0)), (3, .ref ao), (4, .int (nI (7 * t)))] [] := by
  intro n
  induction n with
  | zero =>
    intro t S M fo kk jj h1 h2 hI hk hj
    refine x_iload C 4 dL_law_23 rfl ?_
    refine x_aload_n C 0 dL_law_25 rfl ?_
    refine x_slen C G dL_law_26 ?_
    refine x_bipush C (v := 7) dL_law_27 (by decide) ?_
    refine x_isub C dL_law_29 ?_
    refine x_icmp_gt C (t := 1695) dL_law_30 (by decide) (fun _ => law_end C (by omega) (by omega)) (fun q => ?_)
    have := lp_in hL h2 q
    omega
  | succ n ih =>
    intro t S M fo kk jj h1 h2 hI hk hj
    refine x_iload C 4 dL_law_23 rfl ?_
    refine x_aload_n C 0 dL_law_25 rfl ?_
    refine x_slen C G dL_law_26 ?_
    refine x_bipush C (v := 7) dL_law_27 (by decide) ?_
    refine x_isub C dL_law_29 ?_
    refine x_icmp_gt C (t := 1695) dL_law_30 (by decide) (fun _ => law_end C (by omega) (by omega)) (fun q => ?_)
    have h3 := lp_in hL h2 q
    have K : ∀ (S' M' : St) (fo' : Nat → Int64) (k' j' : Nat), INV 0 S' M' → k' ≤ kk + 1 → j' ≤ jj + 6 → XW p l e room_1 s m #[Value.ref b] below meth c D [] 7 (lw_Z below #[Value.ref b] s) (wE cI cZ ad S' (eo ad (ad 0) (ad 7) (oc ao cJ fo' (wM cI cZ am M' [])))) k' j' 1689 [(0, .ref b), (1, .ref (ad 32)), (2, .ref (am 0)), (3, .ref ao), (4, .int (nI (7 * t)))] [] := by
      intro S' M' fo' k' j' hI' q1 q2
      refine x_iinc C 4 (v := nI (7 * (t + 1))) (lv' := [(0, .ref b), (1, .ref (ad 32)), (2, .ref (am 0)), (3, .ref ao), (4, .int (nI (7 * (t + 1))))]) dL_law_1689 rfl ?_ (by decide) rfl ?_
      · exact (congrArg (nI (7 * t) + ·) (show Int32.ofInt 7 = nI 7 by decide)).trans (nI_add (7 * t) 7)
      refine x_goto C (t := 23) dL_law_1692 (by decide) ?_
      exact ih (t + 1) S' M' fo' k' j' (by omega) (by omega) hI' (by omega) (by omega)
    refine x_aload_n C 0 dL_law_33 rfl ?_
    refine x_iload C 4 dL_law_34 rfl ?_
    refine x_sld C G (vp_in_nI (by omega) (by omega)) rfl dL_law_36 ?_
    refine x_bipush C (v := 31) dL_law_37 (by decide) ?_
    refine x_iand C dL_law_39 ?_
    obtain ⟨q, hq, eq⟩ := pk_andE (xs (nI (7 * t)).toNatClampNeg) (m := 31) 5 (by decide)
    rw [eq]
    have hk1 : kk + 1 ≤ 1094 := by omega
    have hj1 : jj + 6 ≤ 10825 := by omega
    have g1 : vp_in (nI (7 * t) + 1) L := lp_gt (q := 1) hL (by decide) h3
    have g2 : vp_in (nI (7 * t) + 2) L := lp_gt (q := 2) hL (by decide) h3
    have g3 : vp_in (nI (7 * t) + 3) L := lp_gt (q := 3) hL (by decide) h3
    have g4 : vp_in (nI (7 * t) + 4) L := lp_gt (q := 4) hL (by decide) h3
    have g5 : vp_in (nI (7 * t) + 5) L := lp_gt (q := 5) hL (by decide) h3
    have g6 : vp_in (nI (7 * t) + 6) L := lp_gt (q := 6) hL (by decide) h3
    have hq2 : q = 0 ∨ q = 1 ∨ q = 2 ∨ q = 3 ∨ q = 4 ∨ q = 5 ∨ q = 6 ∨ q = 7 ∨ q = 8 ∨ q = 9 ∨ q = 10 ∨ q = 11 ∨ q = 12 ∨ q = 13 ∨ q = 14 ∨ q = 15 ∨ q = 16 ∨ q = 17 ∨ q = 18 ∨ q = 19 ∨ q = 20 ∨ q = 21 ∨ 22 ≤ q := by omega
    rcases hq2 with rfl | rfl | rfl | rfl | rfl | rfl | rfl | rfl | rfl | rfl | rfl | rfl | rfl | rfl | rfl | rfl | rfl | rfl | rfl | rfl | rfl | rfl | hq2
    · exact x_tableIn C (v := 0) (off := 104) (t := 144) dL_law_40 (nI_toInt (n := 0) (by decide)) (by decide) (by decide) rfl (by decide) (CS_setClass C G hfl hk1 hj1 g1 g2 g3 hI K)
    · exact x_tableIn C (v := 1) (off := 164) (t := 204) dL_law_40 (nI_toInt (n := 1) (by decide)) (by decide) (by decide) rfl (by decide) (CS_add C G hfl hk1 hj1 g1 g2 g3 g4 hI K)
    · exact x_tableIn C (v := 2) (off := 256) (t := 296) dL_law_40 (nI_toInt (n := 2) (by decide)) (by decide) (by decide) rfl (by decide) (CS_set C G hfl hk1 hj1 g1 g2 g3 g4 hI K)
    · exact x_tableIn C (v := 3) (off := 348) (t := 388) dL_law_40 (nI_toInt (n := 3) (by decide)) (by decide) (by decide) rfl (by decide) (CS_move C G hfl hk1 hj1 g1 g2 g3 g4 hI K)
    · exact x_tableIn C (v := 4) (off := 440) (t := 480) dL_law_40 (nI_toInt (n := 4) (by decide)) (by decide) (by decide) rfl (by decide) (CS_delete C G hfl hk1 hj1 g1 g2 hI K)
    · exact x_tableIn C (v := 5) (off := 508) (t := 548) dL_law_40 (nI_toInt (n := 5) (by decide)) (by decide) (by decide) rfl (by decide) (CS_carry C G hfl hk1 hj1 g1 g2 hI K)
    · exact x_tableIn C (v := 6) (off := 583) (t := 623) dL_law_40 (nI_toInt (n := 6) (by decide)) (by decide) (by decide) rfl (by decide) (CS_changes C G hfl hk1 hj1 hI K)
    · exact x_tableIn C (v := 7) (off := 596) (t := 636) dL_law_40 (nI_toInt (n := 7) (by decide)) (by decide) (by decide) rfl (by decide) (CS_timeOf C G hfl hk1 hj1 g1 hI K)
    · exact x_tableIn C (v := 8) (off := 652) (t := 692) dL_law_40 (nI_toInt (n := 8) (by decide)) (by decide) (by decide) rfl (by decide) (CS_entries C G hfl hk1 hj1 g1 hI K)
    · exact x_tableIn C (v := 9) (off := 708) (t := 748) dL_law_40 (nI_toInt (n := 9) (by decide)) (by decide) (by decide) rfl (by decide) (CS_isThere C G hfl hk1 hj1 g1 g2 hI K)
    · exact x_tableIn C (v := 10) (off := 783) (t := 823) dL_law_40 (nI_toInt (n := 10) (by decide)) (by decide) (by decide) rfl (by decide) (CS_parentOf C G hfl hk1 hj1 g1 g2 hI K)
    · exact x_tableIn C (v := 11) (off := 851) (t := 891) dL_law_40 (nI_toInt (n := 11) (by decide)) (by decide) (by decide) rfl (by decide) (CS_labelOf C G hfl hk1 hj1 g1 g2 hI K)
    · exact x_tableIn C (v := 12) (off := 919) (t := 959) dL_law_40 (nI_toInt (n := 12) (by decide)) (by decide) (by decide) rfl (by decide) (CS_value C G hfl hk1 hj1 g1 g2 g3 hI K)
    · exact x_tableIn C (v := 13) (off := 999) (t := 1039) dL_law_40 (nI_toInt (n := 13) (by decide)) (by decide) (by decide) rfl (by decide) (CS_isWhole C G hfl hk1 hj1 g1 g2 hI K)
    · exact x_tableIn C (v := 14) (off := 1074) (t := 1114) dL_law_40 (nI_toInt (n := 14) (by decide)) (by decide) (by decide) rfl (by decide) (CS_find C G hfl hk1 hj1 g1 g2 g3 hI K)
    · exact x_tableIn C (v := 15) (off := 1154) (t := 1194) dL_law_40 (nI_toInt (n := 15) (by decide)) (by decide) (by decide) rfl (by decide) (CS_areAlike C G hfl hk1 hj1 hI K)
    · exact x_tableIn C (v := 16) (off := 1167) (t := 1207) dL_law_40 (nI_toInt (n := 16) (by decide)) (by decide) (by decide) rfl (by decide) (CS_setRight C G hfl hk1 hj1 g1 g2 g3 hI K)
    · exact x_tableIn C (v := 17) (off := 1227) (t := 1267) dL_law_40 (nI_toInt (n := 17) (by decide)) (by decide) (by decide) rfl (by decide) (CS_refer C G hfl hk1 hj1 g1 g2 hI K)
    · exact x_tableIn C (v := 18) (off := 1291) (t := 1331) dL_law_40 (nI_toInt (n := 18) (by decide)) (by decide) (by decide) rfl (by decide) (CS_test C G hfl hk1 hj1 g1 g2 g3 hI K)
    · exact x_tableIn C (v := 19) (off := 1371) (t := 1411) dL_law_40 (nI_toInt (n := 19) (by decide)) (by decide) (by decide) rfl (by decide) (CS_join C G hfl hk1 hj1 g1 g2 g3 hI K)
    · exact x_tableIn C (v := 20) (off := 1451) (t := 1491) dL_law_40 (nI_toInt (n := 20) (by decide)) (by decide) (by decide) rfl (by decide) (CS_holds C G hfl hk1 hj1 g1 g2 g3 hI K)
    · exact x_tableIn C (v := 21) (off := 1531) (t := 1571) dL_law_40 (nI_toInt (n := 21) (by decide)) (by decide) (by decide) rfl (by decide) (CS_search C G hfl hk1 hj1 g1 g2 g3 g4 g5 g6 hI K)
    · refine x_tableOut C (t := 1689) dL_law_40 (.inr ?_) (by decide) (K S M fo kk jj hI (by omega) (by omega))
      rw [nI_toInt (n := q) (by omega)]
      omega
