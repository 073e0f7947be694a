/-! THE LAW's CASES under the invariant (written by wip/gen/genC.py) -/
theorem CS_setClass {p : Program} {l : Launch} {e : Env} {s : State} {m : MethodId} {below : List Frame} {meth : Method} {c : Code} {D : va_G} {cI cZ cJ : ClassId} {ad am : Nat → Nat} {ao b L kk jj : Nat} {xs : Nat → Int32} {S M : St} {fo : Nat → Int64} {i : Int32} {Q : State → Prop} (C : XC p room_1 s m #[Value.ref b] meth c cL_law 7 (some .boolean) RL wsL_law D (t3 cI cZ cJ)) (G : LG s b L xs) (hfl : l.stackTraces = false) (hk : kk + 1 ≤ 1094) (hj : jj + 6 ≤ 10825) (g1 : vp_in (i + 1) L) (g2 : vp_in (i + 2) L) (g3 : vp_in (i + 3) L) (hI : INV 0 S M) (K : ∀ (S' M' : St) (fo' : Nat → Int64) (k' j' : Nat), INV 0 S' M' → k' ≤ kk + 1 → j' ≤ jj + 6 → XW p l e room_1 s m #[Value.ref b] below meth c D [] 7 Q (wE cI cZ ad S' (eo ad (ad 0) (ad 7) (oc ao cJ fo' (wM cI cZ am M' [])))) k' j' 1689 [(0, .ref b), (1, .ref (ad 32)), (2, .ref (am 0)), (3, .ref ao), (4, .int i)] []) : XW p l e room_1 s m #[Value.ref b] below meth c D [] 7 Q (wE cI cZ ad S (eo ad (ad 0) (ad 7) (oc ao cJ fo (wM cI cZ am M [])))) kk jj 144 [(0, .ref b), (1, .ref (ad 32)), (2, .ref (am 0)), (3, .ref ao), (4, .int i)] [] := by
  obtain ⟨k, S', M', h1, h2, h3, h4, h5⟩ := api_setClass hI (xs (i + 1).toNatClampNeg) (xs (i + 2).toNatClampNeg) (xs (i + 3).toNatClampNeg)
  have h8 : k = 0 ∨ k = 1 ∨ k = 2 ∨ k = 3 := by omega
  rcases h8 with rfl | rfl | rfl | rfl
  · skip
    exact LC_setClass_ok C G hfl hk hj g1 rfl g2 rfl g3 rfl h1 h2 (h5.trans rfl) (fun fo' k' j' q1 q2 => K S' M' fo' k' j' h3 q1 q2)
  · skip
    exact LC_setClass_th0 C G hfl hk hj g1 rfl g2 rfl g3 rfl h1 h2 (h5.trans rfl) (fun fo' k' j' q1 q2 => K S' M' fo' k' j' h3 q1 q2)
  · skip
    exact LC_setClass_th1 C G hfl hk hj g1 rfl g2 rfl g3 rfl h1 h2 (h5.trans rfl) (fun fo' k' j' q1 q2 => K S' M' fo' k' j' h3 q1 q2)
  · skip
    exact LC_setClass_th2 C G hfl hk hj g1 rfl g2 rfl g3 rfl h1 h2 (h5.trans rfl) (fun fo' k' j' q1 q2 => K S' M' fo' k' j' h3 q1 q2)
theorem CS_add {p : Program} {l : Launch} {e : Env} {s : State} {m : MethodId} {below : List Frame} {meth : Method} {c : Code} {D : va_G} {cI cZ cJ : ClassId} {ad am : Nat → Nat} {ao b L kk jj : Nat} {xs : Nat → Int32} {S M : St} {fo : Nat → Int64} {i : Int32} {Q : State → Prop} (C : XC p room_1 s m #[Value.ref b] meth c cL_law 7 (some .boolean) RL wsL_law D (t3 cI cZ cJ)) (G : LG s b L xs) (hfl : l.stackTraces = false) (hk : kk + 1 ≤ 1094) (hj : jj + 6 ≤ 10825) (g1 : vp_in (i + 1) L) (g2 : vp_in (i + 2) L) (g3 : vp_in (i + 3) L) (g4 : vp_in (i + 4) L) (hI : INV 0 S M) (K : ∀ (S' M' : St) (fo' : Nat → Int64) (k' j' : Nat), INV 0 S' M' → k' ≤ kk + 1 → j' ≤ jj + 6 → XW p l e room_1 s m #[Value.ref b] below meth c D [] 7 Q (wE cI cZ ad S' (eo ad (ad 0) (ad 7) (oc ao cJ fo' (wM cI cZ am M' [])))) k' j' 1689 [(0, .ref b), (1, .ref (ad 32)), (2, .ref (am 0)), (3, .ref ao), (4, .int i)] []) : XW p l e room_1 s m #[Value.ref b] below meth c D [] 7 Q (wE cI cZ ad S (eo ad (ad 0) (ad 7) (oc ao cJ fo (wM cI cZ am M [])))) kk jj 204 [(0, .ref b), (1, .ref (ad 32)), (2, .ref (am 0)), (3, .ref ao), (4, .int i)] [] := by
  obtain ⟨k, v, S', w, M', h1, h2, h3, h4, h5, h6⟩ := top_add hI (xs (i + 1).toNatClampNeg) (xs (i + 2).toNatClampNeg) (xs (i + 3).toNatClampNeg) (xs (i + 4).toNatClampNeg)
  have h8 : k = 0 ∨ k = 1 ∨ k = 2 ∨ k = 3 := by omega
  rcases h8 with rfl | rfl | rfl | rfl
  · have h9 := h6 rfl
    subst h9
    exact LC_add_ok C G hfl hk hj g1 rfl g2 rfl g3 rfl g4 rfl h1 h2 (h5.trans rfl) (fun fo' k' j' q1 q2 => K S' M' fo' k' j' h3 q1 q2)
  · skip
    exact LC_add_th0 C G hfl hk hj g1 rfl g2 rfl g3 rfl g4 rfl h1 h2 (h5.trans rfl) (fun fo' k' j' q1 q2 => K S' M' fo' k' j' h3 q1 q2)
  · skip
    exact LC_add_th1 C G hfl hk hj g1 rfl g2 rfl g3 rfl g4 rfl h1 h2 (h5.trans rfl) (fun fo' k' j' q1 q2 => K S' M' fo' k' j' h3 q1 q2)
  · skip
    exact LC_add_th2 C G hfl hk hj g1 rfl g2 rfl g3 rfl g4 rfl h1 h2 (h5.trans rfl) (fun fo' k' j' q1 q2 => K S' M' fo' k' j' h3 q1 q2)
theorem CS_set {p : Program} {l : Launch} {e : Env} {s : State} {m : MethodId} {below : List Frame} {meth : Method} {c : Code} {D : va_G} {cI cZ cJ : ClassId} {ad am : Nat → Nat} {ao b L kk jj : Nat} {xs : Nat → Int32} {S M : St} {fo : Nat → Int64} {i : Int32} {Q : State → Prop} (C : XC p room_1 s m #[Value.ref b] meth c cL_law 7 (some .boolean) RL wsL_law D (t3 cI cZ cJ)) (G : LG s b L xs) (hfl : l.stackTraces = false) (hk : kk + 1 ≤ 1094) (hj : jj + 6 ≤ 10825) (g1 : vp_in (i + 1) L) (g2 : vp_in (i + 2) L) (g3 : vp_in (i + 3) L) (g4 : vp_in (i + 4) L) (hI : INV 0 S M) (K : ∀ (S' M' : St) (fo' : Nat → Int64) (k' j' : Nat), INV 0 S' M' → k' ≤ kk + 1 → j' ≤ jj + 6 → XW p l e room_1 s m #[Value.ref b] below meth c D [] 7 Q (wE cI cZ ad S' (eo ad (ad 0) (ad 7) (oc ao cJ fo' (wM cI cZ am M' [])))) k' j' 1689 [(0, .ref b), (1, .ref (ad 32)), (2, .ref (am 0)), (3, .ref ao), (4, .int i)] []) : XW p l e room_1 s m #[Value.ref b] below meth c D [] 7 Q (wE cI cZ ad S (eo ad (ad 0) (ad 7) (oc ao cJ fo (wM cI cZ am M [])))) kk jj 296 [(0, .ref b), (1, .ref (ad 32)), (2, .ref (am 0)), (3, .ref ao), (4, .int i)] [] := by
  obtain ⟨k, v, S', w, M', h1, h2, h3, h4, h5, h6⟩ := top_sett hI (xs (i + 1).toNatClampNeg) (xs (i + 2).toNatClampNeg) (xs (i + 3).toNatClampNeg) (xs (i + 4).toNatClampNeg)
  have h8 : k = 0 ∨ k = 1 ∨ k = 2 ∨ k = 3 := by omega
  rcases h8 with rfl | rfl | rfl | rfl
  · have h9 := h6 rfl
    subst h9
    exact LC_set_ok C G hfl hk hj g1 rfl g2 rfl g3 rfl g4 rfl h1 h2 (h5.trans rfl) (fun fo' k' j' q1 q2 => K S' M' fo' k' j' h3 q1 q2)
  · skip
    exact LC_set_th0 C G hfl hk hj g1 rfl g2 rfl g3 rfl g4 rfl h1 h2 (h5.trans rfl) (fun fo' k' j' q1 q2 => K S' M' fo' k' j' h3 q1 q2)
  · skip
    exact LC_set_th1 C G hfl hk hj g1 rfl g2 rfl g3 rfl g4 rfl h1 h2 (h5.trans rfl) (fun fo' k' j' q1 q2 => K S' M' fo' k' j' h3 q1 q2)
  · skip
    exact LC_set_th2 C G hfl hk hj g1 rfl g2 rfl g3 rfl g4 rfl h1 h2 (h5.trans rfl) (fun fo' k' j' q1 q2 => K S' M' fo' k' j' h3 q1 q2)
theorem CS_move {p : Program} {l : Launch} {e : Env} {s : State} {m : MethodId} {below : List Frame} {meth : Method} {c : Code} {D : va_G} {cI cZ cJ : ClassId} {ad am : Nat → Nat} {ao b L kk jj : Nat} {xs : Nat → Int32} {S M : St} {fo : Nat → Int64} {i : Int32} {Q : State → Prop} (C : XC p room_1 s m #[Value.ref b] meth c cL_law 7 (some .boolean) RL wsL_law D (t3 cI cZ cJ)) (G : LG s b L xs) (hfl : l.stackTraces = false) (hk : kk + 1 ≤ 1094) (hj : jj + 6 ≤ 10825) (g1 : vp_in (i + 1) L) (g2 : vp_in (i + 2) L) (g3 : vp_in (i + 3) L) (g4 : vp_in (i + 4) L) (hI : INV 0 S M) (K : ∀ (S' M' : St) (fo' : Nat → Int64) (k' j' : Nat), INV 0 S' M' → k' ≤ kk + 1 → j' ≤ jj + 6 → XW p l e room_1 s m #[Value.ref b] below meth c D [] 7 Q (wE cI cZ ad S' (eo ad (ad 0) (ad 7) (oc ao cJ fo' (wM cI cZ am M' [])))) k' j' 1689 [(0, .ref b), (1, .ref (ad 32)), (2, .ref (am 0)), (3, .ref ao), (4, .int i)] []) : XW p l e room_1 s m #[Value.ref b] below meth c D [] 7 Q (wE cI cZ ad S (eo ad (ad 0) (ad 7) (oc ao cJ fo (wM cI cZ am M [])))) kk jj 388 [(0, .ref b), (1, .ref (ad 32)), (2, .ref (am 0)), (3, .ref ao), (4, .int i)] [] := by
  obtain ⟨k, v, S', w, M', h1, h2, h3, h4, h5, h6⟩ := top_move hI (xs (i + 1).toNatClampNeg) (xs (i + 2).toNatClampNeg) (xs (i + 3).toNatClampNeg) (xs (i + 4).toNatClampNeg)
  have h8 : k = 0 ∨ k = 1 ∨ k = 2 ∨ k = 3 := by omega
  rcases h8 with rfl | rfl | rfl | rfl
  · have h9 := h6 rfl
    subst h9
    exact LC_move_ok C G hfl hk hj g1 rfl g2 rfl g3 rfl g4 rfl h1 h2 (h5.trans rfl) (fun fo' k' j' q1 q2 => K S' M' fo' k' j' h3 q1 q2)
  · skip
    exact LC_move_th0 C G hfl hk hj g1 rfl g2 rfl g3 rfl g4 rfl h1 h2 (h5.trans rfl) (fun fo' k' j' q1 q2 => K S' M' fo' k' j' h3 q1 q2)
  · skip
    exact LC_move_th1 C G hfl hk hj g1 rfl g2 rfl g3 rfl g4 rfl h1 h2 (h5.trans rfl) (fun fo' k' j' q1 q2 => K S' M' fo' k' j' h3 q1 q2)
  · skip
    exact LC_move_th2 C G hfl hk hj g1 rfl g2 rfl g3 rfl g4 rfl h1 h2 (h5.trans rfl) (fun fo' k' j' q1 q2 => K S' M' fo' k' j' h3 q1 q2)
theorem CS_delete {p : Program} {l : Launch} {e : Env} {s : State} {m : MethodId} {below : List Frame} {meth : Method} {c : Code} {D : va_G} {cI cZ cJ : ClassId} {ad am : Nat → Nat} {ao b L kk jj : Nat} {xs : Nat → Int32} {S M : St} {fo : Nat → Int64} {i : Int32} {Q : State → Prop} (C : XC p room_1 s m #[Value.ref b] meth c cL_law 7 (some .boolean) RL wsL_law D (t3 cI cZ cJ)) (G : LG s b L xs) (hfl : l.stackTraces = false) (hk : kk + 1 ≤ 1094) (hj : jj + 6 ≤ 10825) (g1 : vp_in (i + 1) L) (g2 : vp_in (i + 2) L) (hI : INV 0 S M) (K : ∀ (S' M' : St) (fo' : Nat → Int64) (k' j' : Nat), INV 0 S' M' → k' ≤ kk + 1 → j' ≤ jj + 6 → XW p l e room_1 s m #[Value.ref b] below meth c D [] 7 Q (wE cI cZ ad S' (eo ad (ad 0) (ad 7) (oc ao cJ fo' (wM cI cZ am M' [])))) k' j' 1689 [(0, .ref b), (1, .ref (ad 32)), (2, .ref (am 0)), (3, .ref ao), (4, .int i)] []) : XW p l e room_1 s m #[Value.ref b] below meth c D [] 7 Q (wE cI cZ ad S (eo ad (ad 0) (ad 7) (oc ao cJ fo (wM cI cZ am M [])))) kk jj 480 [(0, .ref b), (1, .ref (ad 32)), (2, .ref (am 0)), (3, .ref ao), (4, .int i)] [] := by
  obtain ⟨k, v, S', w, M', h1, h2, h3, h4, h5, h6⟩ := top_delete hI (xs (i + 1).toNatClampNeg) (xs (i + 2).toNatClampNeg)
  rcases h4 with rfl | rfl | rfl
  · have h9 := h6 rfl
    subst h9
    exact LC_delete_ok C G hfl hk hj g1 rfl g2 rfl h1 h2 (h5.trans rfl) (fun fo' k' j' q1 q2 => K S' M' fo' k' j' h3 q1 q2)
  · skip
    exact LC_delete_th0 C G hfl hk hj g1 rfl g2 rfl h1 h2 (h5.trans rfl) (fun fo' k' j' q1 q2 => K S' M' fo' k' j' h3 q1 q2)
  · skip
    exact LC_delete_th2 C G hfl hk hj g1 rfl g2 rfl h1 h2 (h5.trans rfl) (fun fo' k' j' q1 q2 => K S' M' fo' k' j' h3 q1 q2)
theorem CS_carry {p : Program} {l : Launch} {e : Env} {s : State} {m : MethodId} {below : List Frame} {meth : Method} {c : Code} {D : va_G} {cI cZ cJ : ClassId} {ad am : Nat → Nat} {ao b L kk jj : Nat} {xs : Nat → Int32} {S M : St} {fo : Nat → Int64} {i : Int32} {Q : State → Prop} (C : XC p room_1 s m #[Value.ref b] meth c cL_law 7 (some .boolean) RL wsL_law D (t3 cI cZ cJ)) (G : LG s b L xs) (hfl : l.stackTraces = false) (hk : kk + 1 ≤ 1094) (hj : jj + 6 ≤ 10825) (g1 : vp_in (i + 1) L) (g2 : vp_in (i + 2) L) (hI : INV 0 S M) (K : ∀ (S' M' : St) (fo' : Nat → Int64) (k' j' : Nat), INV 0 S' M' → k' ≤ kk + 1 → j' ≤ jj + 6 → XW p l e room_1 s m #[Value.ref b] below meth c D [] 7 Q (wE cI cZ ad S' (eo ad (ad 0) (ad 7) (oc ao cJ fo' (wM cI cZ am M' [])))) k' j' 1689 [(0, .ref b), (1, .ref (ad 32)), (2, .ref (am 0)), (3, .ref ao), (4, .int i)] []) : XW p l e room_1 s m #[Value.ref b] below meth c D [] 7 Q (wE cI cZ ad S (eo ad (ad 0) (ad 7) (oc ao cJ fo (wM cI cZ am M [])))) kk jj 548 [(0, .ref b), (1, .ref (ad 32)), (2, .ref (am 0)), (3, .ref ao), (4, .int i)] [] := by
  obtain ⟨k, v, S', w, M', h1, h2, h3, h4, h5, h6⟩ := top_carry hI (xs (i + 1).toNatClampNeg) (xs (i + 2).toNatClampNeg)
  have h7 := cod_carry _ _ h1
  have h8 : k = 0 ∨ k = 1 := by omega
  rcases h8 with rfl | rfl
  · have h9 := h6 rfl
    subst h9
    exact LC_carry_ok C G hfl hk hj g1 rfl g2 rfl h1 h2 (h5.trans rfl) (fun fo' k' j' q1 q2 => K S' M' fo' k' j' h3 q1 q2)
  · skip
    exact LC_carry_th0 C G hfl hk hj g1 rfl g2 rfl h1 h2 (h5.trans rfl) (fun fo' k' j' q1 q2 => K S' M' fo' k' j' h3 q1 q2)
theorem CS_timeOf {p : Program} {l : Launch} {e : Env} {s : State} {m : MethodId} {below : List Frame} {meth : Method} {c : Code} {D : va_G} {cI cZ cJ : ClassId} {ad am : Nat → Nat} {ao b L kk jj : Nat} {xs : Nat → Int32} {S M : St} {fo : Nat → Int64} {i : Int32} {Q : State → Prop} (C : XC p room_1 s m #[Value.ref b] meth c cL_law 7 (some .boolean) RL wsL_law D (t3 cI cZ cJ)) (G : LG s b L xs) (hfl : l.stackTraces = false) (hk : kk + 1 ≤ 1094) (hj : jj + 6 ≤ 10825) (g1 : vp_in (i + 1) L) (hI : INV 0 S M) (K : ∀ (S' M' : St) (fo' : Nat → Int64) (k' j' : Nat), INV 0 S' M' → k' ≤ kk + 1 → j' ≤ jj + 6 → XW p l e room_1 s m #[Value.ref b] below meth c D [] 7 Q (wE cI cZ ad S' (eo ad (ad 0) (ad 7) (oc ao cJ fo' (wM cI cZ am M' [])))) k' j' 1689 [(0, .ref b), (1, .ref (ad 32)), (2, .ref (am 0)), (3, .ref ao), (4, .int i)] []) : XW p l e room_1 s m #[Value.ref b] below meth c D [] 7 Q (wE cI cZ ad S (eo ad (ad 0) (ad 7) (oc ao cJ fo (wM cI cZ am M [])))) kk jj 636 [(0, .ref b), (1, .ref (ad 32)), (2, .ref (am 0)), (3, .ref ao), (4, .int i)] [] := by
  obtain ⟨k, v, w, M', h1, h2, h3, h4, h5, h6⟩ := api_timeOf hI (xs (i + 1).toNatClampNeg)
  have h7 := cod_timeOf _ _ h1
  have h8 : k = 0 ∨ k = 1 := by omega
  rcases h8 with rfl | rfl
  · have h9 := h6 rfl
    subst h9
    exact LC_timeOf_ok C G hfl hk hj g1 rfl h1 h2 (h5.trans rfl) (fun fo' k' j' q1 q2 => K S M' fo' k' j' h3 q1 q2)
  · skip
    exact LC_timeOf_th0 C G hfl hk hj g1 rfl h1 h2 (h5.trans rfl) (fun fo' k' j' q1 q2 => K S M' fo' k' j' h3 q1 q2)
theorem CS_entries {p : Program} {l : Launch} {e : Env} {s : State} {m : MethodId} {below : List Frame} {meth : Method} {c : Code} {D : va_G} {cI cZ cJ : ClassId} {ad am : Nat → Nat} {ao b L kk jj : Nat} {xs : Nat → Int32} {S M : St} {fo : Nat → Int64} {i : Int32} {Q : State → Prop} (C : XC p room_1 s m #[Value.ref b] meth c cL_law 7 (some .boolean) RL wsL_law D (t3 cI cZ cJ)) (G : LG s b L xs) (hfl : l.stackTraces = false) (hk : kk + 1 ≤ 1094) (hj : jj + 6 ≤ 10825) (g1 : vp_in (i + 1) L) (hI : INV 0 S M) (K : ∀ (S' M' : St) (fo' : Nat → Int64) (k' j' : Nat), INV 0 S' M' → k' ≤ kk + 1 → j' ≤ jj + 6 → XW p l e room_1 s m #[Value.ref b] below meth c D [] 7 Q (wE cI cZ ad S' (eo ad (ad 0) (ad 7) (oc ao cJ fo' (wM cI cZ am M' [])))) k' j' 1689 [(0, .ref b), (1, .ref (ad 32)), (2, .ref (am 0)), (3, .ref ao), (4, .int i)] []) : XW p l e room_1 s m #[Value.ref b] below meth c D [] 7 Q (wE cI cZ ad S (eo ad (ad 0) (ad 7) (oc ao cJ fo (wM cI cZ am M [])))) kk jj 692 [(0, .ref b), (1, .ref (ad 32)), (2, .ref (am 0)), (3, .ref ao), (4, .int i)] [] := by
  obtain ⟨k, v, w, M', h1, h2, h3, h4, h5, h6⟩ := top_entries hI (xs (i + 1).toNatClampNeg)
  have h7 := cod_entries _ _ h1
  have h8 : k = 0 ∨ k = 1 := by omega
  rcases h8 with rfl | rfl
  · have h9 := h6 rfl
    subst h9
    exact LC_entries_ok C G hfl hk hj g1 rfl h1 h2 (h5.trans rfl) (fun fo' k' j' q1 q2 => K S M' fo' k' j' h3 q1 q2)
  · skip
    exact LC_entries_th0 C G hfl hk hj g1 rfl h1 h2 (h5.trans rfl) (fun fo' k' j' q1 q2 => K S M' fo' k' j' h3 q1 q2)
theorem CS_isThere {p : Program} {l : Launch} {e : Env} {s : State} {m : MethodId} {below : List Frame} {meth : Method} {c : Code} {D : va_G} {cI cZ cJ : ClassId} {ad am : Nat → Nat} {ao b L kk jj : Nat} {xs : Nat → Int32} {S M : St} {fo : Nat → Int64} {i : Int32} {Q : State → Prop} (C : XC p room_1 s m #[Value.ref b] meth c cL_law 7 (some .boolean) RL wsL_law D (t3 cI cZ cJ)) (G : LG s b L xs) (hfl : l.stackTraces = false) (hk : kk + 1 ≤ 1094) (hj : jj + 6 ≤ 10825) (g1 : vp_in (i + 1) L) (g2 : vp_in (i + 2) L) (hI : INV 0 S M) (K : ∀ (S' M' : St) (fo' : Nat → Int64) (k' j' : Nat), INV 0 S' M' → k' ≤ kk + 1 → j' ≤ jj + 6 → XW p l e room_1 s m #[Value.ref b] below meth c D [] 7 Q (wE cI cZ ad S' (eo ad (ad 0) (ad 7) (oc ao cJ fo' (wM cI cZ am M' [])))) k' j' 1689 [(0, .ref b), (1, .ref (ad 32)), (2, .ref (am 0)), (3, .ref ao), (4, .int i)] []) : XW p l e room_1 s m #[Value.ref b] below meth c D [] 7 Q (wE cI cZ ad S (eo ad (ad 0) (ad 7) (oc ao cJ fo (wM cI cZ am M [])))) kk jj 748 [(0, .ref b), (1, .ref (ad 32)), (2, .ref (am 0)), (3, .ref ao), (4, .int i)] [] := by
  obtain ⟨k, v, w, M', h1, h2, h3, h4, h5, h6⟩ := top_isThere hI (xs (i + 1).toNatClampNeg) (xs (i + 2).toNatClampNeg)
  have h7 := cod_isThere _ _ h1
  have h8 : k = 0 ∨ k = 1 := by omega
  rcases h8 with rfl | rfl
  · have h9 := h6 rfl
    subst h9
    exact LC_isThere_ok C G hfl hk hj g1 rfl g2 rfl h1 h2 (h5.trans rfl) (fun fo' k' j' q1 q2 => K S M' fo' k' j' h3 q1 q2)
  · skip
    exact LC_isThere_th0 C G hfl hk hj g1 rfl g2 rfl h1 h2 (h5.trans rfl) (fun fo' k' j' q1 q2 => K S M' fo' k' j' h3 q1 q2)
theorem CS_parentOf {p : Program} {l : Launch} {e : Env} {s : State} {m : MethodId} {below : List Frame} {meth : Method} {c : Code} {D : va_G} {cI cZ cJ : ClassId} {ad am : Nat → Nat} {ao b L kk jj : Nat} {xs : Nat → Int32} {S M : St} {fo : Nat → Int64} {i : Int32} {Q : State → Prop} (C : XC p room_1 s m #[Value.ref b] meth c cL_law 7 (some .boolean) RL wsL_law D (t3 cI cZ cJ)) (G : LG s b L xs) (hfl : l.stackTraces = false) (hk : kk + 1 ≤ 1094) (hj : jj + 6 ≤ 10825) (g1 : vp_in (i + 1) L) (g2 : vp_in (i + 2) L) (hI : INV 0 S M) (K : ∀ (S' M' : St) (fo' : Nat → Int64) (k' j' : Nat), INV 0 S' M' → k' ≤ kk + 1 → j' ≤ jj + 6 → XW p l e room_1 s m #[Value.ref b] below meth c D [] 7 Q (wE cI cZ ad S' (eo ad (ad 0) (ad 7) (oc ao cJ fo' (wM cI cZ am M' [])))) k' j' 1689 [(0, .ref b), (1, .ref (ad 32)), (2, .ref (am 0)), (3, .ref ao), (4, .int i)] []) : XW p l e room_1 s m #[Value.ref b] below meth c D [] 7 Q (wE cI cZ ad S (eo ad (ad 0) (ad 7) (oc ao cJ fo (wM cI cZ am M [])))) kk jj 823 [(0, .ref b), (1, .ref (ad 32)), (2, .ref (am 0)), (3, .ref ao), (4, .int i)] [] := by
  obtain ⟨k, v, w, M', h1, h2, h3, h4, h5, h6⟩ := top_parentOf hI (xs (i + 1).toNatClampNeg) (xs (i + 2).toNatClampNeg)
  have h7 := cod_parentOf _ _ h1
  have h8 : k = 0 ∨ k = 1 := by omega
  rcases h8 with rfl | rfl
  · have h9 := h6 rfl
    subst h9
    exact LC_parentOf_ok C G hfl hk hj g1 rfl g2 rfl h1 h2 (h5.trans rfl) (fun fo' k' j' q1 q2 => K S M' fo' k' j' h3 q1 q2)
  · skip
    exact LC_parentOf_th0 C G hfl hk hj g1 rfl g2 rfl h1 h2 (h5.trans rfl) (fun fo' k' j' q1 q2 => K S M' fo' k' j' h3 q1 q2)
theorem CS_labelOf {p : Program} {l : Launch} {e : Env} {s : State} {m : MethodId} {below : List Frame} {meth : Method} {c : Code} {D : va_G} {cI cZ cJ : ClassId} {ad am : Nat → Nat} {ao b L kk jj : Nat} {xs : Nat → Int32} {S M : St} {fo : Nat → Int64} {i : Int32} {Q : State → Prop} (C : XC p room_1 s m #[Value.ref b] meth c cL_law 7 (some .boolean) RL wsL_law D (t3 cI cZ cJ)) (G : LG s b L xs) (hfl : l.stackTraces = false) (hk : kk + 1 ≤ 1094) (hj : jj + 6 ≤ 10825) (g1 : vp_in (i + 1) L) (g2 : vp_in (i + 2) L) (hI : INV 0 S M) (K : ∀ (S' M' : St) (fo' : Nat → Int64) (k' j' : Nat), INV 0 S' M' → k' ≤ kk + 1 → j' ≤ jj + 6 → XW p l e room_1 s m #[Value.ref b] below meth c D [] 7 Q (wE cI cZ ad S' (eo ad (ad 0) (ad 7) (oc ao cJ fo' (wM cI cZ am M' [])))) k' j' 1689 [(0, .ref b), (1, .ref (ad 32)), (2, .ref (am 0)), (3, .ref ao), (4, .int i)] []) : XW p l e room_1 s m #[Value.ref b] below meth c D [] 7 Q (wE cI cZ ad S (eo ad (ad 0) (ad 7) (oc ao cJ fo (wM cI cZ am M [])))) kk jj 891 [(0, .ref b), (1, .ref (ad 32)), (2, .ref (am 0)), (3, .ref ao), (4, .int i)] [] := by
  obtain ⟨k, v, w, M', h1, h2, h3, h4, h5, h6⟩ := top_labelOf hI (xs (i + 1).toNatClampNeg) (xs (i + 2).toNatClampNeg)
  have h7 := cod_labelOf _ _ h1
  have h8 : k = 0 ∨ k = 1 := by omega
  rcases h8 with rfl | rfl
  · have h9 := h6 rfl
    subst h9
    exact LC_labelOf_ok C G hfl hk hj g1 rfl g2 rfl h1 h2 (h5.trans rfl) (fun fo' k' j' q1 q2 => K S M' fo' k' j' h3 q1 q2)
  · skip
    exact LC_labelOf_th0 C G hfl hk hj g1 rfl g2 rfl h1 h2 (h5.trans rfl) (fun fo' k' j' q1 q2 => K S M' fo' k' j' h3 q1 q2)
theorem CS_value {p : Program} {l : Launch} {e : Env} {s : State} {m : MethodId} {below : List Frame} {meth : Method} {c : Code} {D : va_G} {cI cZ cJ : ClassId} {ad am : Nat → Nat} {ao b L kk jj : Nat} {xs : Nat → Int32} {S M : St} {fo : Nat → Int64} {i : Int32} {Q : State → Prop} (C : XC p room_1 s m #[Value.ref b] meth c cL_law 7 (some .boolean) RL wsL_law D (t3 cI cZ cJ)) (G : LG s b L xs) (hfl : l.stackTraces = false) (hk : kk + 1 ≤ 1094) (hj : jj + 6 ≤ 10825) (g1 : vp_in (i + 1) L) (g2 : vp_in (i + 2) L) (g3 : vp_in (i + 3) L) (hI : INV 0 S M) (K : ∀ (S' M' : St) (fo' : Nat → Int64) (k' j' : Nat), INV 0 S' M' → k' ≤ kk + 1 → j' ≤ jj + 6 → XW p l e room_1 s m #[Value.ref b] below meth c D [] 7 Q (wE cI cZ ad S' (eo ad (ad 0) (ad 7) (oc ao cJ fo' (wM cI cZ am M' [])))) k' j' 1689 [(0, .ref b), (1, .ref (ad 32)), (2, .ref (am 0)), (3, .ref ao), (4, .int i)] []) : XW p l e room_1 s m #[Value.ref b] below meth c D [] 7 Q (wE cI cZ ad S (eo ad (ad 0) (ad 7) (oc ao cJ fo (wM cI cZ am M [])))) kk jj 959 [(0, .ref b), (1, .ref (ad 32)), (2, .ref (am 0)), (3, .ref ao), (4, .int i)] [] := by
  obtain ⟨k, v, w, M', h1, h2, h3, h4, h5, h6⟩ := top_value hI (xs (i + 1).toNatClampNeg) (xs (i + 2).toNatClampNeg) (xs (i + 3).toNatClampNeg)
  have h7 := cod_value _ _ h1
  have h8 : k = 0 ∨ k = 1 := by omega
  rcases h8 with rfl | rfl
  · have h9 := h6 rfl
    subst h9
    exact LC_value_ok C G hfl hk hj g1 rfl g2 rfl g3 rfl h1 h2 (h5.trans rfl) (fun fo' k' j' q1 q2 => K S M' fo' k' j' h3 q1 q2)
  · skip
    exact LC_value_th0 C G hfl hk hj g1 rfl g2 rfl g3 rfl h1 h2 (h5.trans rfl) (fun fo' k' j' q1 q2 => K S M' fo' k' j' h3 q1 q2)
theorem CS_isWhole {p : Program} {l : Launch} {e : Env} {s : State} {m : MethodId} {below : List Frame} {meth : Method} {c : Code} {D : va_G} {cI cZ cJ : ClassId} {ad am : Nat → Nat} {ao b L kk jj : Nat} {xs : Nat → Int32} {S M : St} {fo : Nat → Int64} {i : Int32} {Q : State → Prop} (C : XC p room_1 s m #[Value.ref b] meth c cL_law 7 (some .boolean) RL wsL_law D (t3 cI cZ cJ)) (G : LG s b L xs) (hfl : l.stackTraces = false) (hk : kk + 1 ≤ 1094) (hj : jj + 6 ≤ 10825) (g1 : vp_in (i + 1) L) (g2 : vp_in (i + 2) L) (hI : INV 0 S M) (K : ∀ (S' M' : St) (fo' : Nat → Int64) (k' j' : Nat), INV 0 S' M' → k' ≤ kk + 1 → j' ≤ jj + 6 → XW p l e room_1 s m #[Value.ref b] below meth c D [] 7 Q (wE cI cZ ad S' (eo ad (ad 0) (ad 7) (oc ao cJ fo' (wM cI cZ am M' [])))) k' j' 1689 [(0, .ref b), (1, .ref (ad 32)), (2, .ref (am 0)), (3, .ref ao), (4, .int i)] []) : XW p l e room_1 s m #[Value.ref b] below meth c D [] 7 Q (wE cI cZ ad S (eo ad (ad 0) (ad 7) (oc ao cJ fo (wM cI cZ am M [])))) kk jj 1039 [(0, .ref b), (1, .ref (ad 32)), (2, .ref (am 0)), (3, .ref ao), (4, .int i)] [] := by
  obtain ⟨k, v, w, M', h1, h2, h3, h4, h5, h6⟩ := top_isWhole hI (xs (i + 1).toNatClampNeg) (xs (i + 2).toNatClampNeg)
  have h7 := cod_isWhole _ _ h1
  have h8 : k = 0 ∨ k = 1 := by omega
  rcases h8 with rfl | rfl
  · have h9 := h6 rfl
    subst h9
    exact LC_isWhole_ok C G hfl hk hj g1 rfl g2 rfl h1 h2 (h5.trans rfl) (fun fo' k' j' q1 q2 => K S M' fo' k' j' h3 q1 q2)
  · skip
    exact LC_isWhole_th0 C G hfl hk hj g1 rfl g2 rfl h1 h2 (h5.trans rfl) (fun fo' k' j' q1 q2 => K S M' fo' k' j' h3 q1 q2)
theorem CS_find {p : Program} {l : Launch} {e : Env} {s : State} {m : MethodId} {below : List Frame} {meth : Method} {c : Code} {D : va_G} {cI cZ cJ : ClassId} {ad am : Nat → Nat} {ao b L kk jj : Nat} {xs : Nat → Int32} {S M : St} {fo : Nat → Int64} {i : Int32} {Q : State → Prop} (C : XC p room_1 s m #[Value.ref b] meth c cL_law 7 (some .boolean) RL wsL_law D (t3 cI cZ cJ)) (G : LG s b L xs) (hfl : l.stackTraces = false) (hk : kk + 1 ≤ 1094) (hj : jj + 6 ≤ 10825) (g1 : vp_in (i + 1) L) (g2 : vp_in (i + 2) L) (g3 : vp_in (i + 3) L) (hI : INV 0 S M) (K : ∀ (S' M' : St) (fo' : Nat → Int64) (k' j' : Nat), INV 0 S' M' → k' ≤ kk + 1 → j' ≤ jj + 6 → XW p l e room_1 s m #[Value.ref b] below meth c D [] 7 Q (wE cI cZ ad S' (eo ad (ad 0) (ad 7) (oc ao cJ fo' (wM cI cZ am M' [])))) k' j' 1689 [(0, .ref b), (1, .ref (ad 32)), (2, .ref (am 0)), (3, .ref ao), (4, .int i)] []) : XW p l e room_1 s m #[Value.ref b] below meth c D [] 7 Q (wE cI cZ ad S (eo ad (ad 0) (ad 7) (oc ao cJ fo (wM cI cZ am M [])))) kk jj 1114 [(0, .ref b), (1, .ref (ad 32)), (2, .ref (am 0)), (3, .ref ao), (4, .int i)] [] := by
  obtain ⟨k, v, w, M', h1, h2, h3, h4, h5, h6⟩ := top_find hI (xs (i + 1).toNatClampNeg) (xs (i + 2).toNatClampNeg) (xs (i + 3).toNatClampNeg)
  have h7 := cod_find _ _ h1
  have h8 : k = 0 ∨ k = 1 ∨ k = 2 := by omega
  rcases h8 with rfl | rfl | rfl
  · have h9 := h6 rfl
    subst h9
    exact LC_find_ok C G hfl hk hj g1 rfl g2 rfl g3 rfl h1 h2 (h5.trans rfl) (fun fo' k' j' q1 q2 => K S M' fo' k' j' h3 q1 q2)
  · skip
    exact LC_find_th0 C G hfl hk hj g1 rfl g2 rfl g3 rfl h1 h2 (h5.trans rfl) (fun fo' k' j' q1 q2 => K S M' fo' k' j' h3 q1 q2)
  · skip
    exact LC_find_th1 C G hfl hk hj g1 rfl g2 rfl g3 rfl h1 h2 (h5.trans rfl) (fun fo' k' j' q1 q2 => K S M' fo' k' j' h3 q1 q2)
theorem CS_setRight {p : Program} {l : Launch} {e : Env} {s : State} {m : MethodId} {below : List Frame} {meth : Method} {c : Code} {D : va_G} {cI cZ cJ : ClassId} {ad am : Nat → Nat} {ao b L kk jj : Nat} {xs : Nat → Int32} {S M : St} {fo : Nat → Int64} {i : Int32} {Q : State → Prop} (C : XC p room_1 s m #[Value.ref b] meth c cL_law 7 (some .boolean) RL wsL_law D (t3 cI cZ cJ)) (G : LG s b L xs) (hfl : l.stackTraces = false) (hk : kk + 1 ≤ 1094) (hj : jj + 6 ≤ 10825) (g1 : vp_in (i + 1) L) (g2 : vp_in (i + 2) L) (g3 : vp_in (i + 3) L) (hI : INV 0 S M) (K : ∀ (S' M' : St) (fo' : Nat → Int64) (k' j' : Nat), INV 0 S' M' → k' ≤ kk + 1 → j' ≤ jj + 6 → XW p l e room_1 s m #[Value.ref b] below meth c D [] 7 Q (wE cI cZ ad S' (eo ad (ad 0) (ad 7) (oc ao cJ fo' (wM cI cZ am M' [])))) k' j' 1689 [(0, .ref b), (1, .ref (ad 32)), (2, .ref (am 0)), (3, .ref ao), (4, .int i)] []) : XW p l e room_1 s m #[Value.ref b] below meth c D [] 7 Q (wE cI cZ ad S (eo ad (ad 0) (ad 7) (oc ao cJ fo (wM cI cZ am M [])))) kk jj 1207 [(0, .ref b), (1, .ref (ad 32)), (2, .ref (am 0)), (3, .ref ao), (4, .int i)] [] := by
  obtain ⟨k, S', M', h1, h2, h3, h4, h5⟩ := api_setRight hI (xs (i + 1).toNatClampNeg) (xs (i + 2).toNatClampNeg) (xs (i + 3).toNatClampNeg)
  have h7 := cod_setRight _ _ h1
  have h8 : k = 0 ∨ k = 1 ∨ k = 2 := by omega
  rcases h8 with rfl | rfl | rfl
  · skip
    exact LC_setRight_ok C G hfl hk hj g1 rfl g2 rfl g3 rfl h1 h2 (h5.trans rfl) (fun fo' k' j' q1 q2 => K S' M' fo' k' j' h3 q1 q2)
  · skip
    exact LC_setRight_th0 C G hfl hk hj g1 rfl g2 rfl g3 rfl h1 h2 (h5.trans rfl) (fun fo' k' j' q1 q2 => K S' M' fo' k' j' h3 q1 q2)
  · skip
    exact LC_setRight_th1 C G hfl hk hj g1 rfl g2 rfl g3 rfl h1 h2 (h5.trans rfl) (fun fo' k' j' q1 q2 => K S' M' fo' k' j' h3 q1 q2)
theorem CS_test {p : Program} {l : Launch} {e : Env} {s : State} {m : MethodId} {below : List Frame} {meth : Method} {c : Code} {D : va_G} {cI cZ cJ : ClassId} {ad am : Nat → Nat} {ao b L kk jj : Nat} {xs : Nat → Int32} {S M : St} {fo : Nat → Int64} {i : Int32} {Q : State → Prop} (C : XC p room_1 s m #[Value.ref b] meth c cL_law 7 (some .boolean) RL wsL_law D (t3 cI cZ cJ)) (G : LG s b L xs) (hfl : l.stackTraces = false) (hk : kk + 1 ≤ 1094) (hj : jj + 6 ≤ 10825) (g1 : vp_in (i + 1) L) (g2 : vp_in (i + 2) L) (g3 : vp_in (i + 3) L) (hI : INV 0 S M) (K : ∀ (S' M' : St) (fo' : Nat → Int64) (k' j' : Nat), INV 0 S' M' → k' ≤ kk + 1 → j' ≤ jj + 6 → XW p l e room_1 s m #[Value.ref b] below meth c D [] 7 Q (wE cI cZ ad S' (eo ad (ad 0) (ad 7) (oc ao cJ fo' (wM cI cZ am M' [])))) k' j' 1689 [(0, .ref b), (1, .ref (ad 32)), (2, .ref (am 0)), (3, .ref ao), (4, .int i)] []) : XW p l e room_1 s m #[Value.ref b] below meth c D [] 7 Q (wE cI cZ ad S (eo ad (ad 0) (ad 7) (oc ao cJ fo (wM cI cZ am M [])))) kk jj 1331 [(0, .ref b), (1, .ref (ad 32)), (2, .ref (am 0)), (3, .ref ao), (4, .int i)] [] := by
  obtain ⟨k, v, S', w, M', h1, h2, h3, h4, h5, h6⟩ := api_test hI (xs (i + 1).toNatClampNeg) (xs (i + 2).toNatClampNeg) (xs (i + 3).toNatClampNeg)
  rcases h4 with rfl | rfl | rfl
  · have h9 := h6 rfl
    subst h9
    exact LC_test_ok C G hfl hk hj g1 rfl g2 rfl g3 rfl h1 h2 (h5.trans rfl) (fun fo' k' j' q1 q2 => K S' M' fo' k' j' h3 q1 q2)
  · skip
    exact LC_test_th1 C G hfl hk hj g1 rfl g2 rfl g3 rfl h1 h2 (h5.trans rfl) (fun fo' k' j' q1 q2 => K S' M' fo' k' j' h3 q1 q2)
  · skip
    exact LC_test_th2 C G hfl hk hj g1 rfl g2 rfl g3 rfl h1 h2 (h5.trans rfl) (fun fo' k' j' q1 q2 => K S' M' fo' k' j' h3 q1 q2)
theorem CS_join {p : Program} {l : Launch} {e : Env} {s : State} {m : MethodId} {below : List Frame} {meth : Method} {c : Code} {D : va_G} {cI cZ cJ : ClassId} {ad am : Nat → Nat} {ao b L kk jj : Nat} {xs : Nat → Int32} {S M : St} {fo : Nat → Int64} {i : Int32} {Q : State → Prop} (C : XC p room_1 s m #[Value.ref b] meth c cL_law 7 (some .boolean) RL wsL_law D (t3 cI cZ cJ)) (G : LG s b L xs) (hfl : l.stackTraces = false) (hk : kk + 1 ≤ 1094) (hj : jj + 6 ≤ 10825) (g1 : vp_in (i + 1) L) (g2 : vp_in (i + 2) L) (g3 : vp_in (i + 3) L) (hI : INV 0 S M) (K : ∀ (S' M' : St) (fo' : Nat → Int64) (k' j' : Nat), INV 0 S' M' → k' ≤ kk + 1 → j' ≤ jj + 6 → XW p l e room_1 s m #[Value.ref b] below meth c D [] 7 Q (wE cI cZ ad S' (eo ad (ad 0) (ad 7) (oc ao cJ fo' (wM cI cZ am M' [])))) k' j' 1689 [(0, .ref b), (1, .ref (ad 32)), (2, .ref (am 0)), (3, .ref ao), (4, .int i)] []) : XW p l e room_1 s m #[Value.ref b] below meth c D [] 7 Q (wE cI cZ ad S (eo ad (ad 0) (ad 7) (oc ao cJ fo (wM cI cZ am M [])))) kk jj 1411 [(0, .ref b), (1, .ref (ad 32)), (2, .ref (am 0)), (3, .ref ao), (4, .int i)] [] := by
  obtain ⟨k, v, S', w, M', h1, h2, h3, h4, h5, h6⟩ := api_join hI (xs (i + 1).toNatClampNeg) (xs (i + 2).toNatClampNeg) (xs (i + 3).toNatClampNeg)
  have h8 : k = 0 ∨ k = 1 ∨ k = 2 ∨ k = 3 := by omega
  rcases h8 with rfl | rfl | rfl | rfl
  · have h9 := h6 rfl
    subst h9
    exact LC_join_ok C G hfl hk hj g1 rfl g2 rfl g3 rfl h1 h2 (h5.trans rfl) (fun fo' k' j' q1 q2 => K S' M' fo' k' j' h3 q1 q2)
  · skip
    exact LC_join_th0 C G hfl hk hj g1 rfl g2 rfl g3 rfl h1 h2 (h5.trans rfl) (fun fo' k' j' q1 q2 => K S' M' fo' k' j' h3 q1 q2)
  · skip
    exact LC_join_th1 C G hfl hk hj g1 rfl g2 rfl g3 rfl h1 h2 (h5.trans rfl) (fun fo' k' j' q1 q2 => K S' M' fo' k' j' h3 q1 q2)
  · skip
    exact LC_join_th2 C G hfl hk hj g1 rfl g2 rfl g3 rfl h1 h2 (h5.trans rfl) (fun fo' k' j' q1 q2 => K S' M' fo' k' j' h3 q1 q2)
theorem CS_holds {p : Program} {l : Launch} {e : Env} {s : State} {m : MethodId} {below : List Frame} {meth : Method} {c : Code} {D : va_G} {cI cZ cJ : ClassId} {ad am : Nat → Nat} {ao b L kk jj : Nat} {xs : Nat → Int32} {S M : St} {fo : Nat → Int64} {i : Int32} {Q : State → Prop} (C : XC p room_1 s m #[Value.ref b] meth c cL_law 7 (some .boolean) RL wsL_law D (t3 cI cZ cJ)) (G : LG s b L xs) (hfl : l.stackTraces = false) (hk : kk + 1 ≤ 1094) (hj : jj + 6 ≤ 10825) (g1 : vp_in (i + 1) L) (g2 : vp_in (i + 2) L) (g3 : vp_in (i + 3) L) (hI : INV 0 S M) (K : ∀ (S' M' : St) (fo' : Nat → Int64) (k' j' : Nat), INV 0 S' M' → k' ≤ kk + 1 → j' ≤ jj + 6 → XW p l e room_1 s m #[Value.ref b] below meth c D [] 7 Q (wE cI cZ ad S' (eo ad (ad 0) (ad 7) (oc ao cJ fo' (wM cI cZ am M' [])))) k' j' 1689 [(0, .ref b), (1, .ref (ad 32)), (2, .ref (am 0)), (3, .ref ao), (4, .int i)] []) : XW p l e room_1 s m #[Value.ref b] below meth c D [] 7 Q (wE cI cZ ad S (eo ad (ad 0) (ad 7) (oc ao cJ fo (wM cI cZ am M [])))) kk jj 1491 [(0, .ref b), (1, .ref (ad 32)), (2, .ref (am 0)), (3, .ref ao), (4, .int i)] [] := by
  obtain ⟨k, v, S', w, M', h1, h2, h3, h4, h5, h6⟩ := top_holds hI (xs (i + 1).toNatClampNeg) (xs (i + 2).toNatClampNeg) (xs (i + 3).toNatClampNeg)
  have h7 := cod_holds _ _ h1
  have h8 : k = 0 ∨ k = 1 := by omega
  rcases h8 with rfl | rfl
  · have h9 := h6 rfl
    subst h9
    exact LC_holds_ok C G hfl hk hj g1 rfl g2 rfl g3 rfl h1 h2 (h5.trans rfl) (fun fo' k' j' q1 q2 => K S' M' fo' k' j' h3 q1 q2)
  · skip
    exact LC_holds_th0 C G hfl hk hj g1 rfl g2 rfl g3 rfl h1 h2 (h5.trans rfl) (fun fo' k' j' q1 q2 => K S' M' fo' k' j' h3 q1 q2)
theorem CS_search {p : Program} {l : Launch} {e : Env} {s : State} {m : MethodId} {below : List Frame} {meth : Method} {c : Code} {D : va_G} {cI cZ cJ : ClassId} {ad am : Nat → Nat} {ao b L kk jj : Nat} {xs : Nat → Int32} {S M : St} {fo : Nat → Int64} {i : Int32} {Q : State → Prop} (C : XC p room_1 s m #[Value.ref b] meth c cL_law 7 (some .boolean) RL wsL_law D (t3 cI cZ cJ)) (G : LG s b L xs) (hfl : l.stackTraces = false) (hk : kk + 1 ≤ 1094) (hj : jj + 6 ≤ 10825) (g1 : vp_in (i + 1) L) (g2 : vp_in (i + 2) L) (g3 : vp_in (i + 3) L) (g4 : vp_in (i + 4) L) (g5 : vp_in (i + 5) L) (g6 : vp_in (i + 6) L) (hI : INV 0 S M) (K : ∀ (S' M' : St) (fo' : Nat → Int64) (k' j' : Nat), INV 0 S' M' → k' ≤ kk + 1 → j' ≤ jj + 6 → XW p l e room_1 s m #[Value.ref b] below meth c D [] 7 Q (wE cI cZ ad S' (eo ad (ad 0) (ad 7) (oc ao cJ fo' (wM cI cZ am M' [])))) k' j' 1689 [(0, .ref b), (1, .ref (ad 32)), (2, .ref (am 0)), (3, .ref ao), (4, .int i)] []) : XW p l e room_1 s m #[Value.ref b] below meth c D [] 7 Q (wE cI cZ ad S (eo ad (ad 0) (ad 7) (oc ao cJ fo (wM cI cZ am M [])))) kk jj 1571 [(0, .ref b), (1, .ref (ad 32)), (2, .ref (am 0)), (3, .ref ao), (4, .int i)] [] := by
  obtain ⟨k, v, S', w, M', h1, h2, h3, h4, h5, h6⟩ := top_search hI (xs (i + 1).toNatClampNeg) (xs (i + 2).toNatClampNeg) (xs (i + 3).toNatClampNeg) (xs (i + 4).toNatClampNeg) (xs (i + 5).toNatClampNeg) (xs (i + 6).toNatClampNeg)
  have h7 := cod_search _ _ h1
  have h8 : k = 0 ∨ k = 1 ∨ k = 2 := by omega
  rcases h8 with rfl | rfl | rfl
  · have h9 := h6 rfl
    subst h9
    exact LC_search_ok C G hfl hk hj g1 rfl g2 rfl g3 rfl g4 rfl g5 rfl g6 rfl h1 h2 (h5.trans rfl) (fun fo' k' j' q1 q2 => K S' M' fo' k' j' h3 q1 q2)
  · skip
    exact LC_search_th0 C G hfl hk hj g1 rfl g2 rfl g3 rfl g4 rfl g5 rfl g6 rfl h1 h2 (h5.trans rfl) (fun fo' k' j' q1 q2 => K S' M' fo' k' j' h3 q1 q2)
  · skip
    exact LC_search_th1 C G hfl hk hj g1 rfl g2 rfl g3 rfl g4 rfl g5 rfl g6 rfl h1 h2 (h5.trans rfl) (fun fo' k' j' q1 q2 => K S' M' fo' k' j' h3 q1 q2)
theorem CS_refer {p : Program} {l : Launch} {e : Env} {s : State} {m : MethodId} {below : List Frame} {meth : Method} {c : Code} {D : va_G} {cI cZ cJ : ClassId} {ad am : Nat → Nat} {ao b L kk jj : Nat} {xs : Nat → Int32} {S M : St} {fo : Nat → Int64} {i : Int32} {Q : State → Prop} (C : XC p room_1 s m #[Value.ref b] meth c cL_law 7 (some .boolean) RL wsL_law D (t3 cI cZ cJ)) (G : LG s b L xs) (hfl : l.stackTraces = false) (hk : kk + 1 ≤ 1094) (hj : jj + 6 ≤ 10825) (g1 : vp_in (i + 1) L) (g2 : vp_in (i + 2) L) (hI : INV 0 S M) (K : ∀ (S' M' : St) (fo' : Nat → Int64) (k' j' : Nat), INV 0 S' M' → k' ≤ kk + 1 → j' ≤ jj + 6 → XW p l e room_1 s m #[Value.ref b] below meth c D [] 7 Q (wE cI cZ ad S' (eo ad (ad 0) (ad 7) (oc ao cJ fo' (wM cI cZ am M' [])))) k' j' 1689 [(0, .ref b), (1, .ref (ad 32)), (2, .ref (am 0)), (3, .ref ao), (4, .int i)] []) : XW p l e room_1 s m #[Value.ref b] below meth c D [] 7 Q (wE cI cZ ad S (eo ad (ad 0) (ad 7) (oc ao cJ fo (wM cI cZ am M [])))) kk jj 1267 [(0, .ref b), (1, .ref (ad 32)), (2, .ref (am 0)), (3, .ref ao), (4, .int i)] [] := by
  by_cases hz : xs (i + 2).toNatClampNeg = 0
  · obtain ⟨k, S', M', h1, h2, h3, h4, h5⟩ := api_refer hI (xs (i + 1).toNatClampNeg) 0
    have h7 := cod_refer _ _ h1
    have h8 : k = 0 ∨ k = 1 := by omega
    rcases h8 with rfl | rfl
    · exact LC_refer_ok_0 C G hfl hk hj g1 rfl g2 rfl hz h1 h2 (h5.trans rfl) (fun fo' k' j' q1 q2 => K S' M' fo' k' j' h3 q1 q2)
    · exact LC_refer_th0_0 C G hfl hk hj g1 rfl g2 rfl hz h1 h2 (h5.trans rfl) (fun fo' k' j' q1 q2 => K S' M' fo' k' j' h3 q1 q2)
  · obtain ⟨k, S', M', h1, h2, h3, h4, h5⟩ := api_refer hI (xs (i + 1).toNatClampNeg) 1
    have h7 := cod_refer _ _ h1
    have h8 : k = 0 ∨ k = 1 := by omega
    rcases h8 with rfl | rfl
    · exact LC_refer_ok_1 C G hfl hk hj g1 rfl g2 rfl hz h1 h2 (h5.trans rfl) (fun fo' k' j' q1 q2 => K S' M' fo' k' j' h3 q1 q2)
    · exact LC_refer_th0_1 C G hfl hk hj g1 rfl g2 rfl hz h1 h2 (h5.trans rfl) (fun fo' k' j' q1 q2 => K S' M' fo' k' j' h3 q1 q2)
theorem CS_changes {p : Program} {l : Launch} {e : Env} {s : State} {m : MethodId} {below : List Frame} {meth : Method} {c : Code} {D : va_G} {cI cZ cJ : ClassId} {ad am : Nat → Nat} {ao b L kk jj : Nat} {xs : Nat → Int32} {S M : St} {fo : Nat → Int64} {i : Int32} {Q : State → Prop} (C : XC p room_1 s m #[Value.ref b] meth c cL_law 7 (some .boolean) RL wsL_law D (t3 cI cZ cJ)) (G : LG s b L xs) (hfl : l.stackTraces = false) (hk : kk + 1 ≤ 1094) (hj : jj + 6 ≤ 10825) (hI : INV 0 S M) (K : ∀ (S' M' : St) (fo' : Nat → Int64) (k' j' : Nat), INV 0 S' M' → k' ≤ kk + 1 → j' ≤ jj + 6 → XW p l e room_1 s m #[Value.ref b] below meth c D [] 7 Q (wE cI cZ ad S' (eo ad (ad 0) (ad 7) (oc ao cJ fo' (wM cI cZ am M' [])))) k' j' 1689 [(0, .ref b), (1, .ref (ad 32)), (2, .ref (am 0)), (3, .ref ao), (4, .int i)] []) : XW p l e room_1 s m #[Value.ref b] below meth c D [] 7 Q (wE cI cZ ad S (eo ad (ad 0) (ad 7) (oc ao cJ fo (wM cI cZ am M [])))) kk jj 623 [(0, .ref b), (1, .ref (ad 32)), (2, .ref (am 0)), (3, .ref ao), (4, .int i)] [] := by
  obtain ⟨v, M', h1, h2, h3, h4⟩ := api_changes hI
  exact LC_changes_ok C G hfl hk hj h1 h2 (fun fo' k' j' q1 q2 => K S M' fo' k' j' h3 q1 q2)
theorem CS_areAlike {p : Program} {l : Launch} {e : Env} {s : State} {m : MethodId} {below : List Frame} {meth : Method} {c : Code} {D : va_G} {cI cZ cJ : ClassId} {ad am : Nat → Nat} {ao b L kk jj : Nat} {xs : Nat → Int32} {S M : St} {fo : Nat → Int64} {i : Int32} {Q : State → Prop} (C : XC p room_1 s m #[Value.ref b] meth c cL_law 7 (some .boolean) RL wsL_law D (t3 cI cZ cJ)) (G : LG s b L xs) (hfl : l.stackTraces = false) (hk : kk + 1 ≤ 1094) (hj : jj + 6 ≤ 10825) (hI : INV 0 S M) (K : ∀ (S' M' : St) (fo' : Nat → Int64) (k' j' : Nat), INV 0 S' M' → k' ≤ kk + 1 → j' ≤ jj + 6 → XW p l e room_1 s m #[Value.ref b] below meth c D [] 7 Q (wE cI cZ ad S' (eo ad (ad 0) (ad 7) (oc ao cJ fo' (wM cI cZ am M' [])))) k' j' 1689 [(0, .ref b), (1, .ref (ad 32)), (2, .ref (am 0)), (3, .ref ao), (4, .int i)] []) : XW p l e room_1 s m #[Value.ref b] below meth c D [] 7 Q (wE cI cZ ad S (eo ad (ad 0) (ad 7) (oc ao cJ fo (wM cI cZ am M [])))) kk jj 1194 [(0, .ref b), (1, .ref (ad 32)), (2, .ref (am 0)), (3, .ref ao), (4, .int i)] [] := by
  obtain ⟨v, M', h1, h2, h3, h4⟩ := api_areAlike hI
  exact LC_areAlike_ok C G hfl hk hj h1 h2 (fun fo' k' j' q1 q2 => K S M' fo' k' j' h3 q1 q2)
