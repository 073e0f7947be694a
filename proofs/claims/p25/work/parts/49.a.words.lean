/-! the law's searches -/
def sv1 : VT := vCls vv0 1 1 2
def sv2 : VT := vNew sv1 0 1 (0, 2, 0, 30, 1, none) [0] (vK sv1)
def sv3 : VT := vNew sv2 0 2 (0, 3, 2, 9, 1, none) [0, 1] (vK sv2)
def sv4 : VT := vNew sv3 0 3 (0, 4, 2, 4, 0, none) [0, 1, 2] (vK sv3)
def sv5 : VT := vNew sv4 0 4 (0, 5, 0, 3, 2, none) [0, 1, 2, 3] (vK sv4)
def sv6 : VT := vNew sv5 0 5 (1, 2, 0, 0, 0, (some 7)) [0, 1, 2, 3, 4] (vK sv5)
def sv7 : VT := vNew sv6 0 6 (1, 3, 0, 0, 0, (some 2)) [0, 1, 2, 3, 4, 5] (vK sv6)
def sv8 : VT := vNew sv7 0 7 (1, 4, 0, 0, 3, (some 1)) [0, 1, 2, 3, 4, 5, 6] (vK sv7)
def sv9 : VT := vFil sv8 2 0 5
def sv10 : VT := vFil sv9 0 3 0
def sv11 : VT := vFil sv10 5 1 1
def sv12 : VT := vFil sv11 4 0 1
def sv13 : VT := vFil sv12 3 0 1
def sv14 : VT := vFil sv13 4 1 2
def sv15 : VT := vFil sv14 1 0 2
def sv16 : VT := vRig sv15 0 2 1
def sv17 : VT := vRig sv16 0 4 0
def sv18 : VT := vRig sv17 0 2 (-1)
def sv19 : VT := vRig sv18 0 0 1
def sv20 : VT := vRig sv19 0 0 (-1)
def sv21 : VT := vRef sv20 2 true
def sv22 : VT := vRef sv21 4 true
def sv23 : VT := vRef sv22 2 false
def sv24 : VT := vFil sv23 4 6 0
def sv25 : VT := vFil sv24 2 0 0
def sv26 : VT := vFil sv25 3 8 0
def sv27 : VT := vFil sv26 1 0 0
def sv28 : VT := vFil sv27 5 10 0
def sv29 : VT := vFil sv28 0 0 0
def sv30 : VT := vFil sv29 4 12 0
def sv31 : VT := vFil sv30 2 0 0
def sv32 : VT := vFil sv31 3 14 0
def sv33 : VT := vFil sv32 1 0 0
def sv34 : VT := vFil sv33 5 16 0
def sv35 : VT := vFil sv34 0 0 0
def sv36 : VT := vFil sv35 4 18 0
abbrev rm_L_searches : Room := { frames := 11, cells := 487, slots := 4014, locals := 238 }
theorem cw_L_searches_X5_add {p : Program} {s : State} {m : MethodId} {args : Array Value} {meth : Method} {c : Code} {D : va_G} {tys : List (ClassId × FieldType)} {R : Room} (C : XC p R s m args meth c cL_searches 2 (some .boolean) RL wsL_searches D tys) : CallW (rm_L_searches) s args RL RX5 26 yX5_add cX5_add 7 (some .int) wsX5_add (rm_X5_add 0) 0 0 4 := cwV 4 C.2.2.2.2.1 gL_searches_X5_add rfl rfl rfl (by decide +kernel) ⟨Nat.le_of_ble_eq_true rfl, Nat.le_of_ble_eq_true rfl⟩
theorem cw_L_searches_X5_holds {p : Program} {s : State} {m : MethodId} {args : Array Value} {meth : Method} {c : Code} {D : va_G} {tys : List (ClassId × FieldType)} {R : Room} (C : XC p R s m args meth c cL_searches 2 (some .boolean) RL wsL_searches D tys) : CallW (rm_L_searches) s args RL RX5 76 yX5_holds cX5_holds 5 (some .int) wsX5_holds (rm_X5_holds 0) 0 0 3 := cwV 3 C.2.2.2.2.1 gL_searches_X5_holds rfl rfl rfl (by decide +kernel) ⟨Nat.le_of_ble_eq_true rfl, Nat.le_of_ble_eq_true rfl⟩
theorem cw_L_searches_X5_isWhole {p : Program} {s : State} {m : MethodId} {args : Array Value} {meth : Method} {c : Code} {D : va_G} {tys : List (ClassId × FieldType)} {R : Room} (C : XC p R s m args meth c cL_searches 2 (some .boolean) RL wsL_searches D tys) : CallW (rm_L_searches) s args RL RX5 64 yX5_isWhole cX5_isWhole 4 (some .boolean) wsX5_isWhole (rm_X5_isWhole 0) 0 0 2 := cwV 2 C.2.2.2.2.1 gL_searches_X5_isWhole rfl rfl rfl (by decide +kernel) ⟨Nat.le_of_ble_eq_true rfl, Nat.le_of_ble_eq_true rfl⟩
theorem cw_L_searches_X5_join {p : Program} {s : State} {m : MethodId} {args : Array Value} {meth : Method} {c : Code} {D : va_G} {tys : List (ClassId × FieldType)} {R : Room} (C : XC p R s m args meth c cL_searches 2 (some .boolean) RL wsL_searches D tys) : CallW (rm_L_searches) s args RL RX5 73 yX5_join cX5_join 4 (some .int) wsX5_join (rm_X5_join 0) 0 0 3 := cwV 3 C.2.2.2.2.1 gL_searches_X5_join rfl rfl rfl (by decide +kernel) ⟨Nat.le_of_ble_eq_true rfl, Nat.le_of_ble_eq_true rfl⟩
theorem cw_L_searches_X5_set {p : Program} {s : State} {m : MethodId} {args : Array Value} {meth : Method} {c : Code} {D : va_G} {tys : List (ClassId × FieldType)} {R : Room} (C : XC p R s m args meth c cL_searches 2 (some .boolean) RL wsL_searches D tys) : CallW (rm_L_searches) s args RL RX5 30 yX5_set cX5_set 7 (some .int) wsX5_set (rm_X5_set 0) 0 0 4 := cwV 4 C.2.2.2.2.1 gL_searches_X5_set rfl rfl rfl (by decide +kernel) ⟨Nat.le_of_ble_eq_true rfl, Nat.le_of_ble_eq_true rfl⟩
theorem cw_L_searches_X5_test {p : Program} {s : State} {m : MethodId} {args : Array Value} {meth : Method} {c : Code} {D : va_G} {tys : List (ClassId × FieldType)} {R : Room} (C : XC p R s m args meth c cL_searches 2 (some .boolean) RL wsL_searches D tys) : CallW (rm_L_searches) s args RL RX5 70 yX5_test cX5_test 4 (some .int) wsX5_test (rm_X5_test 0) 0 0 3 := cwV 3 C.2.2.2.2.1 gL_searches_X5_test rfl rfl rfl (by decide +kernel) ⟨Nat.le_of_ble_eq_true rfl, Nat.le_of_ble_eq_true rfl⟩
theorem cw_L_searches_L_act_th {p : Program} {s : State} {m : MethodId} {args : Array Value} {meth : Method} {c : Code} {D : va_G} {tys : List (ClassId × FieldType)} {R : Room} (C : XC p R s m args meth c cL_searches 2 (some .boolean) RL wsL_searches D tys) : vx_CSW rm_L_searches s args RL 98 yL_act cL_act 7 (some .int) [(0, 289, 290, 13), (0, 289, 295, 15), (0, 289, 300, 17)] wsL_act (rm_L_act 1) 1 6 6 := vx_cwSW 6 C.2.2.2.2.1 gL_searches_L_act rfl rfl rfl (by decide +kernel) ⟨Nat.le_of_ble_eq_true rfl, Nat.le_of_ble_eq_true rfl⟩
theorem cw_L_searches_L_act_ok {p : Program} {s : State} {m : MethodId} {args : Array Value} {meth : Method} {c : Code} {D : va_G} {tys : List (ClassId × FieldType)} {R : Room} (C : XC p R s m args meth c cL_searches 2 (some .boolean) RL wsL_searches D tys) : vx_CSW rm_L_searches s args RL 98 yL_act cL_act 7 (some .int) [(0, 289, 290, 13), (0, 289, 295, 15), (0, 289, 300, 17)] wsL_act (rm_L_act 0) 0 0 6 := vx_cwSW 6 C.2.2.2.2.1 gL_searches_L_act rfl rfl rfl (by decide +kernel) ⟨Nat.le_of_ble_eq_true rfl, Nat.le_of_ble_eq_true rfl⟩
theorem cw_L_searches_L_finds {p : Program} {s : State} {m : MethodId} {args : Array Value} {meth : Method} {c : Code} {D : va_G} {tys : List (ClassId × FieldType)} {R : Room} (C : XC p R s m args meth c cL_searches 2 (some .boolean) RL wsL_searches D tys) : CallB rm_L_searches s args RL 120 yL_finds cL_finds 10 (some .boolean) wsL_finds rm_L_finds 0 0 9 ∧ (Cond.static yL_finds).before args s = true := va_cwS 9 C.2.2.2.2.1 gL_searches_L_finds rfl rfl rfl (by decide +kernel) ⟨Nat.le_of_ble_eq_true rfl, Nat.le_of_ble_eq_true rfl⟩
theorem cw_L_searches_L_kind_th {p : Program} {s : State} {m : MethodId} {args : Array Value} {meth : Method} {c : Code} {D : va_G} {tys : List (ClassId × FieldType)} {R : Room} (C : XC p R s m args meth c cL_searches 2 (some .boolean) RL wsL_searches D tys) : vx_CSW rm_L_searches s args RL 92 yL_kind cL_kind 5 (some .int) [(0, 8, 9, 13), (0, 8, 14, 15), (0, 8, 19, 17)] wsL_kind (rm_L_kind 1) 1 6 4 := vx_cwSW 4 C.2.2.2.2.1 gL_searches_L_kind rfl rfl rfl (by decide +kernel) ⟨Nat.le_of_ble_eq_true rfl, Nat.le_of_ble_eq_true rfl⟩
theorem cw_L_searches_L_kind_ok {p : Program} {s : State} {m : MethodId} {args : Array Value} {meth : Method} {c : Code} {D : va_G} {tys : List (ClassId × FieldType)} {R : Room} (C : XC p R s m args meth c cL_searches 2 (some .boolean) RL wsL_searches D tys) : vx_CSW rm_L_searches s args RL 92 yL_kind cL_kind 5 (some .int) [(0, 8, 9, 13), (0, 8, 14, 15), (0, 8, 19, 17)] wsL_kind (rm_L_kind 0) 0 0 4 := vx_cwSW 4 C.2.2.2.2.1 gL_searches_L_kind rfl rfl rfl (by decide +kernel) ⟨Nat.le_of_ble_eq_true rfl, Nat.le_of_ble_eq_true rfl⟩
theorem cw_L_searches_L_refer_th {p : Program} {s : State} {m : MethodId} {args : Array Value} {meth : Method} {c : Code} {D : va_G} {tys : List (ClassId × FieldType)} {R : Room} (C : XC p R s m args meth c cL_searches 2 (some .boolean) RL wsL_searches D tys) : vx_CSW rm_L_searches s args RL 105 yL_refer cL_refer 4 (some .int) [(0, 7, 8, 13)] wsL_refer (rm_L_refer 1) 1 6 3 := vx_cwSW 3 C.2.2.2.2.1 gL_searches_L_refer rfl rfl rfl (by decide +kernel) ⟨Nat.le_of_ble_eq_true rfl, Nat.le_of_ble_eq_true rfl⟩
theorem cw_L_searches_L_refer_ok {p : Program} {s : State} {m : MethodId} {args : Array Value} {meth : Method} {c : Code} {D : va_G} {tys : List (ClassId × FieldType)} {R : Room} (C : XC p R s m args meth c cL_searches 2 (some .boolean) RL wsL_searches D tys) : vx_CSW rm_L_searches s args RL 105 yL_refer cL_refer 4 (some .int) [(0, 7, 8, 13)] wsL_refer (rm_L_refer 0) 0 0 3 := vx_cwSW 3 C.2.2.2.2.1 gL_searches_L_refer rfl rfl rfl (by decide +kernel) ⟨Nat.le_of_ble_eq_true rfl, Nat.le_of_ble_eq_true rfl⟩
theorem cw_L_searches_L_refuses {p : Program} {s : State} {m : MethodId} {args : Array Value} {meth : Method} {c : Code} {D : va_G} {tys : List (ClassId × FieldType)} {R : Room} (C : XC p R s m args meth c cL_searches 2 (some .boolean) RL wsL_searches D tys) : CallB rm_L_searches s args RL 116 yL_refuses cL_refuses 21 (some .boolean) wsL_refuses rm_L_refuses 225 1350 3 ∧ (Cond.static yL_refuses).before args s = true := va_cwS 3 C.2.2.2.2.1 gL_searches_L_refuses rfl rfl rfl (by decide +kernel) ⟨Nat.le_of_ble_eq_true rfl, Nat.le_of_ble_eq_true rfl⟩
theorem cw_L_searches_L_right_th {p : Program} {s : State} {m : MethodId} {args : Array Value} {meth : Method} {c : Code} {D : va_G} {tys : List (ClassId × FieldType)} {R : Room} (C : XC p R s m args meth c cL_searches 2 (some .boolean) RL wsL_searches D tys) : vx_CSW rm_L_searches s args RL 102 yL_right cL_right 5 (some .int) [(0, 8, 9, 13), (0, 8, 14, 15)] wsL_right (rm_L_right 1) 1 6 4 := vx_cwSW 4 C.2.2.2.2.1 gL_searches_L_right rfl rfl rfl (by decide +kernel) ⟨Nat.le_of_ble_eq_true rfl, Nat.le_of_ble_eq_true rfl⟩
theorem cw_L_searches_L_right_ok {p : Program} {s : State} {m : MethodId} {args : Array Value} {meth : Method} {c : Code} {D : va_G} {tys : List (ClassId × FieldType)} {R : Room} (C : XC p R s m args meth c cL_searches 2 (some .boolean) RL wsL_searches D tys) : vx_CSW rm_L_searches s args RL 102 yL_right cL_right 5 (some .int) [(0, 8, 9, 13), (0, 8, 14, 15)] wsL_right (rm_L_right 0) 0 0 4 := vx_cwSW 4 C.2.2.2.2.1 gL_searches_L_right rfl rfl rfl (by decide +kernel) ⟨Nat.le_of_ble_eq_true rfl, Nat.le_of_ble_eq_true rfl⟩
theorem hi_L_searches_5 : ∀ z ∈ u_ws RX5 TX5 6, z ∈ wsL_searches := by decide +kernel
theorem cw_L_searches_X5_init {p : Program} {s : State} {m : MethodId} {args : Array Value} {meth : Method} {c : Code} {D : va_G} {tys : List (ClassId × FieldType)} {R : Room} (C : XC p R s m args meth c cL_searches 2 (some .boolean) RL wsL_searches D tys) : CallB rm_L_searches s args RL 111 yX5_init cX5_init 1 none wsX5_init rm_X5_init 32 1284 0 ∧ yX5_init.name = "<init>" ∧ (Cond.instanceMethod yX5_init).before args s = true := cwI 0 C.2.2.2.2.1 gL_searches_X5_init rfl rfl rfl (C.2.2.2.2.1 _ (by decide +kernel)) (C.2.2.2.2.1 _ (by decide +kernel)) (C.2.2.2.2.1 _ (by decide +kernel)) rfl (by decide +kernel) ⟨Nat.le_of_ble_eq_true rfl, Nat.le_of_ble_eq_true rfl⟩
