section
-- ===== PART A: goes FIRST, ahead of the names: the tables' words, and 'selects' of the private methods out of them =====
/-- a private method of a class that the tables say can be made, by its rows of tables_1 -/
def lw_okq (q : MethodName × Nat) : Prop := (q.1.cls ≠ "java/lang/invoke/MethodHandle" ∧ q.1.cls ≠ "java/lang/invoke/VarHandle") ∧ Cond.instantiable q.1.cls q.2 ∈ tables_1 ∧ Cond.privateMethod q.1 ∈ tables_1 ∧ Cond.instanceMethod q.1 ∈ tables_1
theorem lw_p0 : lw_okq (⟨"EntryMasters$Tree", "clear", "()V"⟩, 11) := ⟨⟨by decide +kernel, by decide +kernel⟩, List.mem_of_getElem? (i := 75) (by decide +kernel), List.mem_of_getElem? (i := 81) (by decide +kernel), List.mem_of_getElem? (i := 82) (by decide +kernel)⟩
theorem lw_p1 : lw_okq (⟨"EntryMasters$Tree", "hasSameEntry", "(LEntryMasters$Tree;I)Z"⟩, 11) := ⟨⟨by decide +kernel, by decide +kernel⟩, List.mem_of_getElem? (i := 75) (by decide +kernel), List.mem_of_getElem? (i := 190) (by decide +kernel), List.mem_of_getElem? (i := 191) (by decide +kernel)⟩
theorem lw_p2 : lw_okq (⟨"java/lang/Throwable", "fillInStackTrace", "(I)Ljava/lang/Throwable;"⟩, 6) := ⟨⟨by decide +kernel, by decide +kernel⟩, List.mem_of_getElem? (i := 260) (by decide +kernel), List.mem_of_getElem? (i := 258) (by decide +kernel), List.mem_of_getElem? (i := 259) (by decide +kernel)⟩
theorem lw_p3 : lw_okq (⟨"EntryMasters", "treeOf", "(I)LEntryMasters$Tree;"⟩, 6) := ⟨⟨by decide +kernel, by decide +kernel⟩, List.mem_of_getElem? (i := 16) (by decide +kernel), List.mem_of_getElem? (i := 339) (by decide +kernel), List.mem_of_getElem? (i := 340) (by decide +kernel)⟩
theorem lw_p4 : lw_okq (⟨"EntryMasters", "checkRoomForChange", "()V"⟩, 6) := ⟨⟨by decide +kernel, by decide +kernel⟩, List.mem_of_getElem? (i := 16) (by decide +kernel), List.mem_of_getElem? (i := 351) (by decide +kernel), List.mem_of_getElem? (i := 352) (by decide +kernel)⟩
theorem lw_p5 : lw_okq (⟨"EntryMasters$Tree", "putInOrder", "(I)I"⟩, 11) := ⟨⟨by decide +kernel, by decide +kernel⟩, List.mem_of_getElem? (i := 75) (by decide +kernel), List.mem_of_getElem? (i := 388) (by decide +kernel), List.mem_of_getElem? (i := 389) (by decide +kernel)⟩
theorem lw_p6 : lw_okq (⟨"EntryMasters$Tree", "perform", "(I)V"⟩, 11) := ⟨⟨by decide +kernel, by decide +kernel⟩, List.mem_of_getElem? (i := 75) (by decide +kernel), List.mem_of_getElem? (i := 397) (by decide +kernel), List.mem_of_getElem? (i := 398) (by decide +kernel)⟩
theorem lw_p7 : lw_okq (⟨"EntryMasters$Tree", "performAdding", "(IIII)V"⟩, 11) := ⟨⟨by decide +kernel, by decide +kernel⟩, List.mem_of_getElem? (i := 75) (by decide +kernel), List.mem_of_getElem? (i := 401) (by decide +kernel), List.mem_of_getElem? (i := 402) (by decide +kernel)⟩
theorem lw_p8 : lw_okq (⟨"EntryMasters$Tree", "settle", "(II)V"⟩, 11) := ⟨⟨by decide +kernel, by decide +kernel⟩, List.mem_of_getElem? (i := 75) (by decide +kernel), List.mem_of_getElem? (i := 405) (by decide +kernel), List.mem_of_getElem? (i := 406) (by decide +kernel)⟩
theorem lw_p9 : lw_okq (⟨"EntryMasters$Tree", "performSetting", "(III)V"⟩, 11) := ⟨⟨by decide +kernel, by decide +kernel⟩, List.mem_of_getElem? (i := 75) (by decide +kernel), List.mem_of_getElem? (i := 411) (by decide +kernel), List.mem_of_getElem? (i := 412) (by decide +kernel)⟩
theorem lw_p10 : lw_okq (⟨"EntryMasters$Tree", "performMoving", "(III)V"⟩, 11) := ⟨⟨by decide +kernel, by decide +kernel⟩, List.mem_of_getElem? (i := 75) (by decide +kernel), List.mem_of_getElem? (i := 426) (by decide +kernel), List.mem_of_getElem? (i := 427) (by decide +kernel)⟩
theorem lw_p11 : lw_okq (⟨"EntryMasters$Tree", "performDeleting", "(I)V"⟩, 11) := ⟨⟨by decide +kernel, by decide +kernel⟩, List.mem_of_getElem? (i := 75) (by decide +kernel), List.mem_of_getElem? (i := 434) (by decide +kernel), List.mem_of_getElem? (i := 435) (by decide +kernel)⟩
theorem lw_p12 : lw_okq (⟨"EntryMasters", "checkRoomForFilter", "()V"⟩, 6) := ⟨⟨by decide +kernel, by decide +kernel⟩, List.mem_of_getElem? (i := 16) (by decide +kernel), List.mem_of_getElem? (i := 581) (by decide +kernel), List.mem_of_getElem? (i := 582) (by decide +kernel)⟩
theorem lw_p13 : lw_okq (⟨"EntryMasters", "isFound", "(LEntryMasters$Tree;III)Z"⟩, 6) := ⟨⟨by decide +kernel, by decide +kernel⟩, List.mem_of_getElem? (i := 16) (by decide +kernel), List.mem_of_getElem? (i := 644) (by decide +kernel), List.mem_of_getElem? (i := 645) (by decide +kernel)⟩
theorem lw_p14 : lw_okq (⟨"EntryMasters", "nextInScope", "(LEntryMasters$Tree;III)I"⟩, 6) := ⟨⟨by decide +kernel, by decide +kernel⟩, List.mem_of_getElem? (i := 16) (by decide +kernel), List.mem_of_getElem? (i := 654) (by decide +kernel), List.mem_of_getElem? (i := 655) (by decide +kernel)⟩
theorem lw_p15 : lw_okq (⟨"EntryMastersModel", "isHere", "(II)Z"⟩, 26) := ⟨⟨by decide +kernel, by decide +kernel⟩, List.mem_of_getElem? (i := 664) (by decide +kernel), List.mem_of_getElem? (i := 764) (by decide +kernel), List.mem_of_getElem? (i := 765) (by decide +kernel)⟩
def lw_privs_1 : List (MethodName × Nat) := [(⟨"EntryMasters$Tree", "clear", "()V"⟩, 11), (⟨"EntryMasters$Tree", "hasSameEntry", "(LEntryMasters$Tree;I)Z"⟩, 11), (⟨"java/lang/Throwable", "fillInStackTrace", "(I)Ljava/lang/Throwable;"⟩, 6), (⟨"EntryMasters", "treeOf", "(I)LEntryMasters$Tree;"⟩, 6), (⟨"EntryMasters", "checkRoomForChange", "()V"⟩, 6), (⟨"EntryMasters$Tree", "putInOrder", "(I)I"⟩, 11), (⟨"EntryMasters$Tree", "perform", "(I)V"⟩, 11), (⟨"EntryMasters$Tree", "performAdding", "(IIII)V"⟩, 11), (⟨"EntryMasters$Tree", "settle", "(II)V"⟩, 11), (⟨"EntryMasters$Tree", "performSetting", "(III)V"⟩, 11), (⟨"EntryMasters$Tree", "performMoving", "(III)V"⟩, 11), (⟨"EntryMasters$Tree", "performDeleting", "(I)V"⟩, 11), (⟨"EntryMasters", "checkRoomForFilter", "()V"⟩, 6), (⟨"EntryMasters", "isFound", "(LEntryMasters$Tree;III)Z"⟩, 6), (⟨"EntryMasters", "nextInScope", "(LEntryMasters$Tree;III)I"⟩, 6), (⟨"EntryMastersModel", "isHere", "(II)Z"⟩, 26)]
theorem lw_r1 : ∀ q ∈ lw_privs_1, lw_okq q := List.forall_mem_cons.mpr ⟨lw_p0, List.forall_mem_cons.mpr ⟨lw_p1, List.forall_mem_cons.mpr ⟨lw_p2, List.forall_mem_cons.mpr ⟨lw_p3, List.forall_mem_cons.mpr ⟨lw_p4, List.forall_mem_cons.mpr ⟨lw_p5, List.forall_mem_cons.mpr ⟨lw_p6, List.forall_mem_cons.mpr ⟨lw_p7, List.forall_mem_cons.mpr ⟨lw_p8, List.forall_mem_cons.mpr ⟨lw_p9, List.forall_mem_cons.mpr ⟨lw_p10, List.forall_mem_cons.mpr ⟨lw_p11, List.forall_mem_cons.mpr ⟨lw_p12, List.forall_mem_cons.mpr ⟨lw_p13, List.forall_mem_cons.mpr ⟨lw_p14, List.forall_mem_cons.mpr ⟨lw_p15, fun _ h => absurd h List.not_mem_nil⟩⟩⟩⟩⟩⟩⟩⟩⟩⟩⟩⟩⟩⟩⟩⟩
theorem lw_p16 : lw_okq (⟨"EntryMastersModel", "grows", "(I)V"⟩, 26) := ⟨⟨by decide +kernel, by decide +kernel⟩, List.mem_of_getElem? (i := 664) (by decide +kernel), List.mem_of_getElem? (i := 771) (by decide +kernel), List.mem_of_getElem? (i := 772) (by decide +kernel)⟩
theorem lw_p17 : lw_okq (⟨"EntryMastersModel", "next", "(II)I"⟩, 26) := ⟨⟨by decide +kernel, by decide +kernel⟩, List.mem_of_getElem? (i := 664) (by decide +kernel), List.mem_of_getElem? (i := 775) (by decide +kernel), List.mem_of_getElem? (i := 776) (by decide +kernel)⟩
theorem lw_p18 : lw_okq (⟨"EntryMastersModel", "knows", "(II)Z"⟩, 26) := ⟨⟨by decide +kernel, by decide +kernel⟩, List.mem_of_getElem? (i := 664) (by decide +kernel), List.mem_of_getElem? (i := 779) (by decide +kernel), List.mem_of_getElem? (i := 780) (by decide +kernel)⟩
theorem lw_p19 : lw_okq (⟨"EntryMastersModel", "does", "(I)V"⟩, 26) := ⟨⟨by decide +kernel, by decide +kernel⟩, List.mem_of_getElem? (i := 664) (by decide +kernel), List.mem_of_getElem? (i := 783) (by decide +kernel), List.mem_of_getElem? (i := 784) (by decide +kernel)⟩
theorem lw_p20 : lw_okq (⟨"EntryMastersModel", "hangs", "(II)V"⟩, 26) := ⟨⟨by decide +kernel, by decide +kernel⟩, List.mem_of_getElem? (i := 664) (by decide +kernel), List.mem_of_getElem? (i := 787) (by decide +kernel), List.mem_of_getElem? (i := 788) (by decide +kernel)⟩
theorem lw_p21 : lw_okq (⟨"EntryMastersModel", "finds", "(III)I"⟩, 26) := ⟨⟨by decide +kernel, by decide +kernel⟩, List.mem_of_getElem? (i := 664) (by decide +kernel), List.mem_of_getElem? (i := 791) (by decide +kernel), List.mem_of_getElem? (i := 792) (by decide +kernel)⟩
theorem lw_p22 : lw_okq (⟨"EntryMastersModel", "allowed", "(II)Z"⟩, 26) := ⟨⟨by decide +kernel, by decide +kernel⟩, List.mem_of_getElem? (i := 664) (by decide +kernel), List.mem_of_getElem? (i := 798) (by decide +kernel), List.mem_of_getElem? (i := 799) (by decide +kernel)⟩
theorem lw_p23 : lw_okq (⟨"EntryMastersModel", "isWithin", "(II)Z"⟩, 26) := ⟨⟨by decide +kernel, by decide +kernel⟩, List.mem_of_getElem? (i := 664) (by decide +kernel), List.mem_of_getElem? (i := 802) (by decide +kernel), List.mem_of_getElem? (i := 803) (by decide +kernel)⟩
theorem lw_p24 : lw_okq (⟨"EntryMastersModel", "made", "(III)I"⟩, 26) := ⟨⟨by decide +kernel, by decide +kernel⟩, List.mem_of_getElem? (i := 664) (by decide +kernel), List.mem_of_getElem? (i := 806) (by decide +kernel), List.mem_of_getElem? (i := 807) (by decide +kernel)⟩
theorem lw_p25 : lw_okq (⟨"EntryMastersModel", "count", "(I)I"⟩, 26) := ⟨⟨by decide +kernel, by decide +kernel⟩, List.mem_of_getElem? (i := 664) (by decide +kernel), List.mem_of_getElem? (i := 822) (by decide +kernel), List.mem_of_getElem? (i := 823) (by decide +kernel)⟩
theorem lw_p26 : lw_okq (⟨"EntryMastersModel", "isChange", "(I)Z"⟩, 26) := ⟨⟨by decide +kernel, by decide +kernel⟩, List.mem_of_getElem? (i := 664) (by decide +kernel), List.mem_of_getElem? (i := 830) (by decide +kernel), List.mem_of_getElem? (i := 831) (by decide +kernel)⟩
theorem lw_p27 : lw_okq (⟨"EntryMastersModel", "asks", "(II)Z"⟩, 26) := ⟨⟨by decide +kernel, by decide +kernel⟩, List.mem_of_getElem? (i := 664) (by decide +kernel), List.mem_of_getElem? (i := 854) (by decide +kernel), List.mem_of_getElem? (i := 855) (by decide +kernel)⟩
theorem lw_p28 : lw_okq (⟨"EntryMastersModel", "told", "(II)I"⟩, 26) := ⟨⟨by decide +kernel, by decide +kernel⟩, List.mem_of_getElem? (i := 664) (by decide +kernel), List.mem_of_getElem? (i := 878) (by decide +kernel), List.mem_of_getElem? (i := 879) (by decide +kernel)⟩
theorem lw_p29 : lw_okq (⟨"EntryMastersModel", "makes", "(III)I"⟩, 26) := ⟨⟨by decide +kernel, by decide +kernel⟩, List.mem_of_getElem? (i := 664) (by decide +kernel), List.mem_of_getElem? (i := 894) (by decide +kernel), List.mem_of_getElem? (i := 895) (by decide +kernel)⟩
theorem lw_p30 : lw_okq (⟨"EntryMastersModel", "isFilter", "(I)Z"⟩, 26) := ⟨⟨by decide +kernel, by decide +kernel⟩, List.mem_of_getElem? (i := 664) (by decide +kernel), List.mem_of_getElem? (i := 902) (by decide +kernel), List.mem_of_getElem? (i := 903) (by decide +kernel)⟩
theorem lw_p31 : lw_okq (⟨"EntryMastersModel", "filtered", "(II)I"⟩, 26) := ⟨⟨by decide +kernel, by decide +kernel⟩, List.mem_of_getElem? (i := 664) (by decide +kernel), List.mem_of_getElem? (i := 910) (by decide +kernel), List.mem_of_getElem? (i := 911) (by decide +kernel)⟩
def lw_privs_2 : List (MethodName × Nat) := [(⟨"EntryMastersModel", "grows", "(I)V"⟩, 26), (⟨"EntryMastersModel", "next", "(II)I"⟩, 26), (⟨"EntryMastersModel", "knows", "(II)Z"⟩, 26), (⟨"EntryMastersModel", "does", "(I)V"⟩, 26), (⟨"EntryMastersModel", "hangs", "(II)V"⟩, 26), (⟨"EntryMastersModel", "finds", "(III)I"⟩, 26), (⟨"EntryMastersModel", "allowed", "(II)Z"⟩, 26), (⟨"EntryMastersModel", "isWithin", "(II)Z"⟩, 26), (⟨"EntryMastersModel", "made", "(III)I"⟩, 26), (⟨"EntryMastersModel", "count", "(I)I"⟩, 26), (⟨"EntryMastersModel", "isChange", "(I)Z"⟩, 26), (⟨"EntryMastersModel", "asks", "(II)Z"⟩, 26), (⟨"EntryMastersModel", "told", "(II)I"⟩, 26), (⟨"EntryMastersModel", "makes", "(III)I"⟩, 26), (⟨"EntryMastersModel", "isFilter", "(I)Z"⟩, 26), (⟨"EntryMastersModel", "filtered", "(II)I"⟩, 26)]
theorem lw_r2 : ∀ q ∈ lw_privs_2, lw_okq q := List.forall_mem_cons.mpr ⟨lw_p16, List.forall_mem_cons.mpr ⟨lw_p17, List.forall_mem_cons.mpr ⟨lw_p18, List.forall_mem_cons.mpr ⟨lw_p19, List.forall_mem_cons.mpr ⟨lw_p20, List.forall_mem_cons.mpr ⟨lw_p21, List.forall_mem_cons.mpr ⟨lw_p22, List.forall_mem_cons.mpr ⟨lw_p23, List.forall_mem_cons.mpr ⟨lw_p24, List.forall_mem_cons.mpr ⟨lw_p25, List.forall_mem_cons.mpr ⟨lw_p26, List.forall_mem_cons.mpr ⟨lw_p27, List.forall_mem_cons.mpr ⟨lw_p28, List.forall_mem_cons.mpr ⟨lw_p29, List.forall_mem_cons.mpr ⟨lw_p30, List.forall_mem_cons.mpr ⟨lw_p31, fun _ h => absurd h List.not_mem_nil⟩⟩⟩⟩⟩⟩⟩⟩⟩⟩⟩⟩⟩⟩⟩⟩
theorem lw_p32 : lw_okq (⟨"EntryMastersModel", "tested", "(II)I"⟩, 26) := ⟨⟨by decide +kernel, by decide +kernel⟩, List.mem_of_getElem? (i := 664) (by decide +kernel), List.mem_of_getElem? (i := 914) (by decide +kernel), List.mem_of_getElem? (i := 915) (by decide +kernel)⟩
theorem lw_p33 : lw_okq (⟨"EntryMastersModel", "goes", "(III)I"⟩, 26) := ⟨⟨by decide +kernel, by decide +kernel⟩, List.mem_of_getElem? (i := 664) (by decide +kernel), List.mem_of_getElem? (i := 928) (by decide +kernel), List.mem_of_getElem? (i := 929) (by decide +kernel)⟩
theorem lw_p34 : lw_okq (⟨"EntryMastersModel", "behind", "(II)I"⟩, 26) := ⟨⟨by decide +kernel, by decide +kernel⟩, List.mem_of_getElem? (i := 664) (by decide +kernel), List.mem_of_getElem? (i := 932) (by decide +kernel), List.mem_of_getElem? (i := 933) (by decide +kernel)⟩
theorem lw_p35 : lw_okq (⟨"EntryMastersModel", "rank", "(I)I"⟩, 26) := ⟨⟨by decide +kernel, by decide +kernel⟩, List.mem_of_getElem? (i := 664) (by decide +kernel), List.mem_of_getElem? (i := 936) (by decide +kernel), List.mem_of_getElem? (i := 937) (by decide +kernel)⟩
theorem lw_p36 : lw_okq (⟨"EntryMastersModel", "counted", "(II)I"⟩, 26) := ⟨⟨by decide +kernel, by decide +kernel⟩, List.mem_of_getElem? (i := 664) (by decide +kernel), List.mem_of_getElem? (i := 940) (by decide +kernel), List.mem_of_getElem? (i := 941) (by decide +kernel)⟩
def lw_privs_3 : List (MethodName × Nat) := [(⟨"EntryMastersModel", "tested", "(II)I"⟩, 26), (⟨"EntryMastersModel", "goes", "(III)I"⟩, 26), (⟨"EntryMastersModel", "behind", "(II)I"⟩, 26), (⟨"EntryMastersModel", "rank", "(I)I"⟩, 26), (⟨"EntryMastersModel", "counted", "(II)I"⟩, 26)]
theorem lw_r3 : ∀ q ∈ lw_privs_3, lw_okq q := List.forall_mem_cons.mpr ⟨lw_p32, List.forall_mem_cons.mpr ⟨lw_p33, List.forall_mem_cons.mpr ⟨lw_p34, List.forall_mem_cons.mpr ⟨lw_p35, List.forall_mem_cons.mpr ⟨lw_p36, fun _ h => absurd h List.not_mem_nil⟩⟩⟩⟩⟩
def lw_privs : List (MethodName × Nat) := lw_privs_1 ++ (lw_privs_2 ++ (lw_privs_3))
def lw_tbl : List Cond := k2_sels lw_privs ++ tables_1
theorem lw_privs_ok : ∀ q ∈ lw_privs, lw_okq q := by
  show ∀ q ∈ lw_privs_1 ++ (lw_privs_2 ++ (lw_privs_3)), lw_okq q
  exact List.forall_mem_append.mpr ⟨lw_r1, List.forall_mem_append.mpr ⟨lw_r2, lw_r3⟩⟩
-- ===== end of PART A; then your names; then what follows =====
/-! ===== BEGIN words of one list among another's, by their places ===== -/
theorem goodIn_r {big : List Cond} (ws : List Cond) (ps : List Nat) (hp : ws = ps.filterMap (fun i => big[i]?)) (h : ws.all goodWord = true) : GoodIn big ws := by
  intro w hw
  have h1 := List.all_eq_true.mp h w hw
  rw [hp] at hw
  obtain ⟨i, -, hi⟩ := List.mem_filterMap.mp hw
  have hm : w ∈ big := by first | exact List.mem_of_getElem? hi | exact List.getElem?_mem hi
  exact ⟨hm, good_of_word h1⟩
theorem goodIn_app {big a b : List Cond} (ha : GoodIn big a) (hb : GoodIn big b) : GoodIn big (a ++ b) := fun w h => (List.mem_append.mp h).elim (ha w) (hb w)
theorem goodIn_ca {big a b : List Cond} {c : Cond} (ha : GoodIn big (c :: a)) (hb : GoodIn big b) : GoodIn big (c :: (a ++ b)) := fun w h => (List.mem_cons.mp h).elim (fun e => ha w (List.mem_cons.mpr (Or.inl e))) (fun h => (List.mem_append.mp h).elim (fun h => ha w (List.mem_cons.mpr (Or.inr h))) (hb w))
theorem goodIn_sub {big ws : List Cond} (hm : ∀ w ∈ ws, w ∈ big) (h : ws.all goodWord = true) : GoodIn big ws := fun w hw => ⟨hm w hw, good_of_word (List.all_eq_true.mp h w hw)⟩
/-! ===== END ===== -/

/-! ===== BEGIN exceptions that leave a method, and their catching by the caller (launches without stack traces) ===== -/
section VXA
/-! The laws vx_back, vx_callV, vx_callS, vx_callSW, vx_throw0, vx_throwS follow proofs of the library, with one case more: JvmDerived/Free/Laws.lean (Back.of_free), Shelf42/LK1.lean (callV, callS), Shelf/KitTraced.lean (throwNew0V, throwNewS). -/
/-- where a method has thrown q: the class by its name, the cell, what was written, the world -/
def vx_T (XC : String → State → State → Prop) (st : State) (q : Addr) (t : State) (mc ms : Nat) (free : Addr → Prop) : Prop :=
  ∃ (E : String) (ce : Cell) (L : List Loc), XC E st t ∧ t.heap[q]? = some ce ∧ ce.vm = .none ∧ st.vm.findClass E = some ce.cls ∧ st.WarmedH t.vm ∧ st.sameButNew ({ t with vm := st.vm } : State) L mc ms ∧ ∀ z ∈ L, free z.base
def vx_Q (Qc : Array Value → State → Outcome → State → Prop) (XC : String → State → State → Prop) (mc ms : Nat) (free : Addr → Prop) : Array Value → State → Outcome → State → Prop := fun a st o t =>
  (Qc a st o t ∧ ∃ L, FrameEnd st o t L mc ms ∧ ∀ q ∈ L, free q.base) ∨ ∃ q, o = .threw q ∧ vx_T XC st q t mc ms free
/-- a callee that returns or throws -/
def vx_Met (l : Launch) (y : MethodName) (ws : List Cond) (rm : Room) (Pc : Array Value → State → Prop) (Qc : Array Value → State → Outcome → State → Prop) (XC : String → State → State → Prop) (mc ms : Nat) (free : Addr → Prop) : Prop :=
  MetFree l y (headSpec ws rm) Pc (fun _ _ _ _ _ => True) (vx_Q Qc XC mc ms free)
def vx_Post (XC : String → State → State → Prop) (mc ms : Nat) (free : Addr → Prop) : Pt → Array Value → Addr → Pt → Prop := fun A a q B =>
  ∃ (g : JFrame) (mk : MethodId) (t : State) (L : List Loc) (E : String) (ce : Cell), B.U.heap = t.heap ∧ B.U.vm = t.vm ∧ XC E (A.U.calling g mk a) t ∧ t.heap[q]? = some ce ∧ ce.vm = .none ∧ A.U.vm.findClass E = some ce.cls ∧ B.locs = A.locs ++ L ∧ (∀ z ∈ L, free z.base) ∧ B.cells = A.cells + mc ∧ B.slots = A.slots + ms
def vx_Back (l : Launch) (R : Room) (p : Program) (e : Env) (below : List Frame) (s : State) (sargs : Array Value) (y : MethodName) (len W9 : Nat)
    (Pre : Pt → Array Value → Prop) (Post : Pt → Array Value → Option Value → Pt → Prop) (PostX : Pt → Array Value → Addr → Pt → Prop) : Prop :=
  ∀ (m : MethodId) (meth : Method) (c : Code) (A : Pt) (g : JFrame) (ig : Instr) (mk : MethodId) (a : Array Value),
    Stand p l e R s m sargs below meth c A.U A.locs A.cells A.slots → g.method = m → g.locals.size = c.maxLocals → decode c.code g.pc = .ok (ig, len) →
    2 * g.monitorRoom + (g.stack.map fun v => v.category).sum ≤ W9 → A.U.methodNamed? y = some mk → Pre A a →
    (∃ (v : Option Value) (B : Pt), Stand p l e R s m sargs below meth c B.U B.locs B.cells B.slots ∧ Post A a v B ∧
      Steps p.tables e below (doInvoke e (A.U.setTop g) [] mk a).1 (B.U.setTop { g with pc := g.pc + len, stack := v.toList ++ g.stack })) ∨
    (∃ (q : Addr) (B : Pt), Stand p l e R s m sargs below meth c B.U B.locs B.cells B.slots ∧ PostX A a q B ∧
      Steps p.tables e below (doInvoke e (A.U.setTop g) [] mk a).1 ((B.U.setTop g).pushFrame (.throwing q)))
section Payer
variable {l : Launch} {R : Room} {p : Program} {e : Env} {below : List Frame} {s : State} {sargs : Array Value} {y : MethodName} {len W9 : Nat}
theorem vx_back {ws : List Cond} {rm : Room} {Pc : Array Value → State → Prop} {Qc : Array Value → State → Outcome → State → Prop} {XC : String → State → State → Prop} {mc ms : Nat} {free : Addr → Prop} {bytes : ByteArray} {maxL : Nat} {ret : Option FieldType}
    (hM : vx_Met l y ws rm Pc Qc XC mc ms free) (hblind : FrameBlind Pc) (hrc : rm.cells = mc) (hrs : rm.slots = ms)
    (hframes : rm.frames + 1 ≤ R.frames) (hlocals : W9 + (maxL + 11) + rm.locals ≤ R.locals)
    (hws : ∀ w ∈ ws, ∀ a' U, s.WarmedH U.vm → w.before a' U = true) (hcode : Cond.code y bytes maxL ret ∈ ws) (hinit : ∀ a' U, s.WarmedH U.vm → (Cond.initialized y.cls).before a' U = true) :
    vx_Back l R p e below s sargs y len W9 (PreOf R mc ms Pc) (PostOf Qc mc ms free) (vx_Post XC mc ms free) := by
  intro m meth c A g ig mk a X hg hsize hdg hW hn hp
  have h1 : (headSpec ws rm).pre.before a A.U = true := atoms_intro fun w hw => hws w hw _ _ X.warmed
  have h2 : (Cond.code y bytes maxL ret).before a A.U = true := hws _ hcode _ _ X.warmed
  have h3 : (Cond.initialized y.cls).before a A.U = true := hinit _ _ X.warmed
  have h4 : A.cells + (headSpec ws rm).room.cells ≤ R.cells := by rw [show (headSpec ws rm).room.cells = mc from hrc]; exact hp.1
  have h5 : A.slots + (headSpec ws rm).room.slots ≤ R.slots := by rw [show (headSpec ws rm).room.slots = ms from hrs]; exact hp.2.1
  have hPc : Pc a (A.U.calling g mk a) := hblind _ _ _ _ hp.2.2
  obtain ⟨U, Ls, c0, s0⟩ := A
  dsimp only [Pt.U, Pt.locs, Pt.cells, Pt.slots] at h1 h2 h3 h4 h5 X hn hPc ⊢
  obtain ⟨methY, cY, hmY, hcY, -, hlY, -, -, -, -⟩ := Cond.code_spec hn h2
  obtain ⟨kY, hkY, -⟩ := className_of_methodNamed hn
  have hinitY : kY.init = .initialized := Cond.initialized_spec (findClass_of_methodNamed hn) hkY h3
  have h : At U g.method c below := by rw [hg]; exact X.here
  have hlocals9 : W9 + (maxL + 11) + (headSpec ws rm).room.locals ≤ R.locals := hlocals
  have happ : (headSpec ws rm).appliesLoose y e.platform (U.calling g mk a) = true :=
    Spec.appliesLoose_calling (g := g) h hdg hn hkY hinitY
      (X.room_calling (g := g) (R' := (headSpec ws rm).room) hsize hmY hcY hframes (by rw [hlY]; omega) h4 h5) h1
  obtain ⟨mid, hmid⟩ := h.above
  have hfr : (U.setTop g).frames = (.java g :: mid) ++ below := by rw [State.frames_setTop' g h.top, hmid]; rfl
  obtain ⟨o, s₂, hsteps, -, hend, hq⟩ := Steps.callFree hM p X.admits X.cas X.clock (acts := []) hfr happ hPc trivial
  have hq' : vx_Q Qc XC mc ms free a (U.calling g mk a) o s₂ := hq
  rw [State.frames_setTop' g h.top] at hend
  obtain ⟨g₀, hg0⟩ := Option.isSome_iff_exists.mp h.top
  obtain ⟨r, hr⟩ := State.topJava?_eq_some.mp hg0
  have hr' : (({ U with heap := s₂.heap, slotsUsed := s₂.slotsUsed } : State).setVm s₂.vm).frames = .java g₀ :: r := hr
  rcases hq' with ⟨hqc, L, hfe, hL⟩ | ⟨q, rfl, E, ce, L, hx, hce, hcv, hcl, hW₂, hsm, hL⟩
  · obtain ⟨⟨v, rfl⟩, hW₂, e2, q2, q3, q4, q5, q6⟩ := id hfe
    have e3 : s₂ = ({ (U.calling g mk a).setFrames s₂.frames with heap := s₂.heap, slotsUsed := s₂.slotsUsed } : State).setVm s₂.vm := by
      have : s₂ = ({ s₂ with vm := (U.calling g mk a).vm } : State).setVm s₂.vm := rfl
      rw [e2] at this
      exact this
    obtain ⟨c₂, i₂, len₂, hc₂, hd₂, hf₂⟩ := hend
    have hW' : U.WarmedH s₂.vm := hW₂
    have hcc : c₂ = c := by
      have h1 : s₂.code? g.method = U.code? g.method := by
        rw [State.code?_eq, State.code?_eq, hW'.alike.method?]
      exact Option.some.inj (hc₂.symm.trans (h1.trans h.code))
    subst hcc
    have hlen : len₂ = len := by rw [hdg] at hd₂; cases hd₂; rfl
    subst hlen
    have hs₂ : s₂ = (({ U with heap := s₂.heap, slotsUsed := s₂.slotsUsed } : State).setVm s₂.vm).setTop { g with pc := g.pc + len₂, stack := v.toList ++ g.stack } := by
      refine e3.trans ?_
      rw [hf₂, State.calling_eq h.top, State.setFrames_setFrames, State.setTop_of_frames _ hr', hr]
      rfl
    have hsame : U.sameButNew ({ U with heap := s₂.heap, slotsUsed := s₂.slotsUsed } : State) L mc ms := by
      refine ⟨?_, q2, q3, q4, q5, q6⟩
      obtain ⟨t, ht, -⟩ := State.frames_cons hr
      show ({ U with heap := s₂.heap, slotsUsed := s₂.slotsUsed } : State) = { U.setFrames U.frames with heap := s₂.heap, slotsUsed := s₂.slotsUsed }
      rw [State.setFrames_self ht]
    subst hg
    refine Or.inl ⟨v, ⟨(({ U with heap := s₂.heap, slotsUsed := s₂.slotsUsed } : State).setVm s₂.vm), Ls ++ L, c0 + mc, s0 + ms⟩,
      ⟨X.admits, X.cas, X.clock, X.frames, X.room, X.hears, X.method, X.code, (X.here.setHeapUsed s₂.heap s₂.slotsUsed).setVm hW'.alike, X.tail, State.WarmedH.trans X.warmed hW', X.limits, X.bytes, X.same.trans (hsame.setVm s.vm)⟩,
      ⟨g, mk, s₂, L, rfl, rfl, hqc, rfl, hL, rfl, rfl⟩, ?_⟩
    show Steps p.tables e below _ ((({ U with heap := s₂.heap, slotsUsed := s₂.slotsUsed } : State).setVm s₂.vm).setTop { g with pc := g.pc + len₂, stack := v.toList ++ g.stack })
    rw [← hs₂]
    exact hsteps
  · obtain ⟨e2, q2, q3, q4, q5, q6⟩ := id hsm
    have e3 : s₂ = ({ (U.calling g mk a).setFrames s₂.frames with heap := s₂.heap, slotsUsed := s₂.slotsUsed } : State).setVm s₂.vm := by
      have : s₂ = ({ s₂ with vm := (U.calling g mk a).vm } : State).setVm s₂.vm := rfl
      rw [e2] at this
      exact this
    have hf₂ : s₂.frames = .throwing q :: .java g :: U.frames.tail := hend
    have hW' : U.WarmedH s₂.vm := hW₂
    have hs₂ : s₂ = ((({ U with heap := s₂.heap, slotsUsed := s₂.slotsUsed } : State).setVm s₂.vm).setTop g).pushFrame (.throwing q) := by
      refine e3.trans ?_
      rw [hf₂, State.calling_eq h.top, State.setFrames_setFrames, State.pushFrame, State.frames_setTop _ hr', State.setTop_of_frames _ hr', State.setFrames_setFrames, hr]
      rfl
    have hsame : U.sameButNew ({ U with heap := s₂.heap, slotsUsed := s₂.slotsUsed } : State) L mc ms := by
      refine ⟨?_, q2, q3, q4, q5, q6⟩
      obtain ⟨t, ht, -⟩ := State.frames_cons hr
      show ({ U with heap := s₂.heap, slotsUsed := s₂.slotsUsed } : State) = { U.setFrames U.frames with heap := s₂.heap, slotsUsed := s₂.slotsUsed }
      rw [State.setFrames_self ht]
    subst hg
    refine Or.inr ⟨q, ⟨(({ U with heap := s₂.heap, slotsUsed := s₂.slotsUsed } : State).setVm s₂.vm), Ls ++ L, c0 + mc, s0 + ms⟩,
      ⟨X.admits, X.cas, X.clock, X.frames, X.room, X.hears, X.method, X.code, (X.here.setHeapUsed s₂.heap s₂.slotsUsed).setVm hW'.alike, X.tail, State.WarmedH.trans X.warmed hW', X.limits, X.bytes, X.same.trans (hsame.setVm s.vm)⟩,
      ⟨g, mk, s₂, L, E, ce, rfl, rfl, hx, hce, hcv, hcl, rfl, hL, rfl, rfl⟩, ?_⟩
    show Steps p.tables e below _ (((({ U with heap := s₂.heap, slotsUsed := s₂.slotsUsed } : State).setVm s₂.vm).setTop g).pushFrame (.throwing q))
    rw [← hs₂]
    exact hsteps
end Payer
section Calls
variable {p : Program} {l : Launch} {e : Env} {R : Room} {s : State} {m : MethodId} {args : Array Value} {below : List Frame} {meth : Method} {c : Code} {T : State} {locs : List Loc} {cells slots : Nat}
theorem vx_callV (X : Stand p l e R s m args below meth c T locs cells slots) (hexec : p.tables.exec = Jvm.exec) {own C : String} {index : Nat} {y : MethodName} {bytes : ByteArray} {maxL : Nat} {ret : Option FieldType}
    (hown : s.vm.findClass own = some m.cls) (hlink : (Cond.methodLink own index y).before args s = true) (hinst : (Cond.instanceMethod y).before args s = true) (hsel : (Cond.selects C y y).before args s = true)
    (hcode : (Cond.code y bytes maxL ret).before args s = true) (hy : y.cls ≠ "java/lang/invoke/MethodHandle" ∧ y.cls ≠ "java/lang/invoke/VarHandle")
    {W9 : Nat} {Pre : Pt → Array Value → Prop} {Post : Pt → Array Value → Option Value → Pt → Prop} {PostX : Pt → Array Value → Addr → Pt → Prop} (hK : vx_Back l R p e below s args y 3 W9 Pre Post PostX)
    {b : Addr} {cellB : Cell} (hcell : T.heap[b]? = some cellB) (hobj : cellB.vm.isStatics = false) (hcls : s.vm.findClass C = some cellB.cls)
    {g : JFrame} (hg : g.method = m) (hsize : g.locals.size = c.maxLocals) {argsL rest : List Value} (hlen : ∀ sig, parseMethodDescriptor y.desc = some sig → argsL.length = sig.parameters.length)
    (hstack : g.stack = argsL.reverse ++ .ref b :: rest) (hW : 2 * g.monitorRoom + (rest.map fun v => v.category).sum ≤ W9) (hdg : decode c.code g.pc = .ok (.invokevirtual index, 3))
    (hpre : ∀ vm₁, s.WarmedH vm₁ → Pre ⟨T.setVm vm₁, locs, cells, slots⟩ (Value.ref b :: argsL).toArray) :
    (∃ (v : Option Value) (vm₁ : Vm) (B : Pt), s.WarmedH vm₁ ∧ Stand p l e R s m args below meth c B.U B.locs B.cells B.slots ∧ Post ⟨T.setVm vm₁, locs, cells, slots⟩ (Value.ref b :: argsL).toArray v B ∧
      ∀ target, Steps p.tables e below (B.U.setTop { g with pc := g.pc + 3, stack := v.toList ++ rest }) target → Steps p.tables e below (T.setTop g) target) ∨
    (∃ (q : Addr) (vm₁ : Vm) (B : Pt), s.WarmedH vm₁ ∧ Stand p l e R s m args below meth c B.U B.locs B.cells B.slots ∧ PostX ⟨T.setVm vm₁, locs, cells, slots⟩ (Value.ref b :: argsL).toArray q B ∧
      Steps p.tables e below (T.setTop g) ((B.U.setTop { g with stack := rest }).pushFrame (.throwing q))) := by
  obtain ⟨mk, methM, hnamed, hmethM, hstM, habM⟩ := Cond.instanceMethod_spec hinst
  obtain ⟨methM', cM, hmethM', -, -, -, -, -, -, hsigM⟩ := Cond.code_spec hnamed hcode
  cases hmethM.symm.trans hmethM'
  obtain ⟨c2, r2, m2, q1, q2, q3, q4, kP, hkP, hkPi⟩ := Cond.selects_spec hsel
  cases hcls.symm.trans q1
  cases (State.methodFound?_of_named hnamed hy).symm.trans q2
  cases hnamed.symm.trans q3
  have hselP : selectMethod e.platform s.vm cellB.cls mk = .method mk := by rw [Launch.admits_selectMethod X.admits]; exact q4
  obtain ⟨vm₁, X₁, hstep₁⟩ := X.invokevirtual hexec hown hlink hnamed hmethM hstM hkP hkPi hy (a := b) (cell := cellB) hcell
    (fun z h => by rw [h] at hobj; cases hobj) hselP hmethM habM hkP hkPi (g := g) hg (argsL := argsL) (rest := rest) (hlen _ hsigM) hstack hdg
  rcases hK m meth c ⟨T.setVm vm₁, locs, cells, slots⟩ { g with stack := rest } (.invokevirtual index) mk (Value.ref b :: argsL).toArray X₁ hg hsize hdg hW (X₁.named hnamed) (hpre vm₁ X₁.warmed) with ⟨v, B, X', hpost, hsteps⟩ | ⟨q, B, X', hpost, hsteps⟩
  · exact Or.inl ⟨v, vm₁, B, X₁.warmed, X', hpost, fun target h => hstep₁ _ fun acts => by rw [doInvoke_state]; exact hsteps.trans h⟩
  · exact Or.inr ⟨q, vm₁, B, X₁.warmed, X', hpost, hstep₁ _ fun acts => by rw [doInvoke_state]; exact hsteps⟩
theorem vx_callS (X : Stand p l e R s m args below meth c T locs cells slots) (hexec : p.tables.exec = Jvm.exec) {own : String} {index : Nat} {y : MethodName} {bytes : ByteArray} {maxL : Nat} {ret : Option FieldType}
    (hown : s.vm.findClass own = some m.cls) (hlink : (Cond.methodLink own index y).before args s = true) (hstat : (Cond.static y).before args s = true) (hinit : (Cond.initialized y.cls).before args s = true)
    (hcode : (Cond.code y bytes maxL ret).before args s = true) (hy : y.cls ≠ "java/lang/invoke/MethodHandle" ∧ y.cls ≠ "java/lang/invoke/VarHandle")
    {W9 : Nat} {Pre : Pt → Array Value → Prop} {Post : Pt → Array Value → Option Value → Pt → Prop} {PostX : Pt → Array Value → Addr → Pt → Prop} (hK : vx_Back l R p e below s args y 3 W9 Pre Post PostX)
    {g : JFrame} (hg : g.method = m) (hsize : g.locals.size = c.maxLocals) {argsL rest : List Value} (hlen : ∀ sig, parseMethodDescriptor y.desc = some sig → argsL.length = sig.parameters.length)
    (hstack : g.stack = argsL.reverse ++ rest) (hW : 2 * g.monitorRoom + (rest.map fun v => v.category).sum ≤ W9) (hdg : decode c.code g.pc = .ok (.invokestatic index, 3))
    (hpre : ∀ vm₁, s.WarmedH vm₁ → Pre ⟨T.setVm vm₁, locs, cells, slots⟩ argsL.toArray) :
    (∃ (v : Option Value) (vm₁ : Vm) (B : Pt), s.WarmedH vm₁ ∧ Stand p l e R s m args below meth c B.U B.locs B.cells B.slots ∧ Post ⟨T.setVm vm₁, locs, cells, slots⟩ argsL.toArray v B ∧
      ∀ target, Steps p.tables e below (B.U.setTop { g with pc := g.pc + 3, stack := v.toList ++ rest }) target → Steps p.tables e below (T.setTop g) target) ∨
    (∃ (q : Addr) (vm₁ : Vm) (B : Pt), s.WarmedH vm₁ ∧ Stand p l e R s m args below meth c B.U B.locs B.cells B.slots ∧ PostX ⟨T.setVm vm₁, locs, cells, slots⟩ argsL.toArray q B ∧
      Steps p.tables e below (T.setTop g) ((B.U.setTop { g with stack := rest }).pushFrame (.throwing q))) := by
  obtain ⟨mk, hnamed⟩ := Cond.code_named hcode
  obtain ⟨methM, cM, hmethM, -, -, -, -, -, -, hsigM⟩ := Cond.code_spec hnamed hcode
  have hstatic : methM.isStatic = true := Cond.static_spec hnamed hmethM hstat
  obtain ⟨kP, hkP, -⟩ := className_of_methodNamed hnamed
  have hinitP : kP.init = .initialized := Cond.initialized_spec (findClass_of_methodNamed hnamed) hkP hinit
  obtain ⟨vm₁, X₁, hstep₁⟩ := X.invokestatic hexec hown hlink hnamed hmethM hstatic hkP hinitP hy (g := g) hg (argsL := argsL) (rest := rest) (hlen _ hsigM) hstack hdg
  rcases hK m meth c ⟨T.setVm vm₁, locs, cells, slots⟩ { g with stack := rest } (.invokestatic index) mk argsL.toArray X₁ hg hsize hdg hW (X₁.named hnamed) (hpre vm₁ X₁.warmed) with ⟨v, B, X', hpost, hsteps⟩ | ⟨q, B, X', hpost, hsteps⟩
  · exact Or.inl ⟨v, vm₁, B, X₁.warmed, X', hpost, fun target h => hstep₁ _ fun acts => by rw [doInvoke_state]; exact hsteps.trans h⟩
  · exact Or.inr ⟨q, vm₁, B, X₁.warmed, X', hpost, hstep₁ _ fun acts => by rw [doInvoke_state]; exact hsteps⟩
end Calls
theorem vx_cls {s : State} {T : State} {vm₁ : Vm} {E : String} {k : ClassId} (hW : s.WarmedH vm₁) (h : (T.setVm vm₁).vm.findClass E = some k) : s.vm.findClass E = some k := by
  have h1 : vm₁.findClass E = some k := h
  rw [hW.alike.findClass] at h1
  exact h1
/-- the method's frame g, with q thrown over it -/
def vx_W (p : Program) (l : Launch) (e : Env) (R : Room) (s : State) (m : MethodId) (args : Array Value) (below : List Frame) (meth : Method) (c : Code) (H : Heap) (locs : List Loc) (cells slots : Nat) (Q : State → Prop) (g : JFrame) (q : Addr) : Prop :=
  ∀ T : State, T.heap = H → Stand p l e R s m args below meth c T locs cells slots → ∃ t, Steps p.tables e below ((T.setTop g).pushFrame (.throwing q)) t ∧ Q t
def vx_Run (p : Program) (l : Launch) (e : Env) (R : Room) (s : State) (m : MethodId) (args : Array Value) (below : List Frame) (meth : Method) (c : Code) (H : Heap) (locs : List Loc) (cells slots mc ms : Nat) (g : JFrame) (rest : List Value) (Qa : State → Outcome → State → Prop) (XC : String → State → State → Prop) (free : Addr → Prop) : Prop :=
  ∀ T : State, T.heap = H → Stand p l e R s m args below meth c T locs cells slots →
    (∃ (v : Option Value) (st₀ t T' : State) (L : List Loc), st₀.heap = H ∧ Stand p l e R s m args below meth c T' (locs ++ L) (cells + mc) (slots + ms) ∧ (∀ q ∈ L, free q.base) ∧ T'.heap = t.heap ∧ T'.vm = t.vm ∧ Qa st₀ (.returned v) t ∧
      Goes p e below T g T' { g with pc := g.pc + 3, stack := v.toList ++ rest }) ∨
    (∃ (q : Addr) (st₀ t T' : State) (L : List Loc) (E : String) (ce : Cell), st₀.heap = H ∧ Stand p l e R s m args below meth c T' (locs ++ L) (cells + mc) (slots + ms) ∧ (∀ z ∈ L, free z.base) ∧ T'.heap = t.heap ∧ T'.vm = t.vm ∧ XC E st₀ t ∧ t.heap[q]? = some ce ∧ ce.vm = .none ∧ s.vm.findClass E = some ce.cls ∧
      Steps p.tables e below (T.setTop g) ((T'.setTop { g with stack := rest }).pushFrame (.throwing q)))
def vx_X {S : Type} (px : S → Prop) (B : String → S → State → Prop) (A : Nat → Prop) : String → State → State → Prop := fun E st t => ∃ u : S, px u ∧ B E u t ∧ va_F A st t
section Runs
variable {p : Program} {l : Launch} {e : Env} {R : Room} {s : State} {m : MethodId} {args : Array Value} {below : List Frame} {meth : Method} {c : Code} {H : Heap} {locs : List Loc} {cells slots : Nat}
variable {y : MethodName} {bytes cc : ByteArray} {maxL nL mc ms n index : Nat} {ret : Option FieldType} {ws : List Cond} {rm : Room} {Pc : Array Value → State → Prop} {Qc : Array Value → State → Outcome → State → Prop} {XC : String → State → State → Prop} {free : Addr → Prop} {Ts : List Cond} {own C : String} {b : Addr} {As rest : List Value} {g : JFrame}
theorem vx_callBack (cb : CallB R s args own index y bytes maxL ret ws rm mc ms n) (hM : vx_Met l y ws rm Pc Qc XC mc ms free) (hbl : FrameBlind Pc) : vx_Back l R p e below s args y 3 8 (PreOf R mc ms Pc) (PostOf Qc mc ms free) (vx_Post XC mc ms free) := by
  obtain ⟨hrc, hrs, hfr, hlo, hws, hcw, -, hini, -⟩ := cb
  exact vx_back (bytes := bytes) (maxL := maxL) (ret := ret) hM hbl hrc hrs hfr hlo hws hcw (fun a' U hW => word_at hW (Or.inl (by first | rfl | simp [Cond.onTables, Cond.keeps, Cond.steady])) hini)
theorem vx_runV (S : CallFix p m c cc nL s args Ts own) (hM : vx_Met l y ws rm Pc Qc XC mc ms free) (cw : CallW R s args own C index y bytes maxL ret ws rm mc ms n) (hp : PreV s H C b Pc As)
    (hg : g.method = m) (hn : As.length = n) (hsize : g.locals.size = nL) (hstack : g.stack = As.reverse ++ .ref b :: rest) (hW : 2 * g.monitorRoom + (rest.map fun v => v.category).sum ≤ 8) (hdg : decode cc g.pc = .ok (.invokevirtual index, 3)) (hf : cells + mc ≤ R.cells ∧ slots + ms ≤ R.slots) :
    vx_Run p l e R s m args below meth c H locs cells slots mc ms g rest (Qc (Value.ref b :: As).toArray) XC free := by
  have hK : vx_Back l R p e below s args y 3 8 (PreOf R mc ms Pc) (PostOf Qc mc ms free) (vx_Post XC mc ms free) := vx_callBack cw.1 hM hp.1
  obtain ⟨⟨-, -, -, -, -, -, hcode, -, hy, hlen, hl⟩, hin, hse⟩ := cw
  obtain ⟨hx, hb, hml, ho, -⟩ := S
  obtain ⟨-, ⟨cellB, hcB, hoB, hclB⟩, hPc⟩ := hp
  intro T hT X
  rcases vx_callV X hx (C := C) (bytes := bytes) (maxL := maxL) (ret := ret) ho hl hin hse hcode hy hK (by rw [hT]; exact hcB) hoB hclB hg (hsize.trans hml.symm) (argsL := As) (rest := rest) (fun sig h => hn.trans (hlen sig h)) hstack hW (by rw [hb]; exact hdg)
    (fun vm₁ hW₁ => ⟨hf.1, hf.2, hPc (T.setVm vm₁) hT hW₁⟩) with ⟨v, vm₁, ⟨U', l2, c2, s2⟩, hW₁, X', ⟨g', mk, t, L, e1, e2, hq, h1, hL, h2, h3⟩, st⟩ | ⟨q, vm₁, ⟨U', l2, c2, s2⟩, hW₁, X', ⟨g', mk, t, L, E, ce, e1, e2, hq, hce, hcv, hcl, h1, hL, h2, h3⟩, st⟩
  · dsimp only [Pt.U, Pt.locs, Pt.cells, Pt.slots] at X' e1 e2 h1 h2 h3 st
    subst h1; subst h2; subst h3
    exact Or.inl ⟨v, (T.setVm vm₁).calling g' mk (Value.ref b :: As).toArray, t, U', L, hT, X', hL, e1, e2, hq, st⟩
  · dsimp only [Pt.U, Pt.locs, Pt.cells, Pt.slots] at X' e1 e2 h1 h2 h3 st hcl
    subst h1; subst h2; subst h3
    exact Or.inr ⟨q, (T.setVm vm₁).calling g' mk (Value.ref b :: As).toArray, t, U', L, E, ce, hT, X', hL, e1, e2, hq, hce, hcv, vx_cls hW₁ hcl, st⟩
theorem vx_runS (S : CallFix p m c cc nL s args Ts own) (hM : vx_Met l y ws rm Pc Qc XC mc ms free) (cw : CallB R s args own index y bytes maxL ret ws rm mc ms n ∧ (Cond.static y).before args s = true) (hp : PreS s H Pc As)
    (hg : g.method = m) (hn : As.length = n) (hsize : g.locals.size = nL) (hstack : g.stack = As.reverse ++ rest) (hW : 2 * g.monitorRoom + (rest.map fun v => v.category).sum ≤ 8) (hdg : decode cc g.pc = .ok (.invokestatic index, 3)) (hf : cells + mc ≤ R.cells ∧ slots + ms ≤ R.slots) :
    vx_Run p l e R s m args below meth c H locs cells slots mc ms g rest (Qc As.toArray) XC free := by
  have hK : vx_Back l R p e below s args y 3 8 (PreOf R mc ms Pc) (PostOf Qc mc ms free) (vx_Post XC mc ms free) := vx_callBack cw.1 hM hp.1
  obtain ⟨⟨-, -, -, -, -, -, hcode, hini, hy, hlen, hl⟩, hstt⟩ := cw
  obtain ⟨hx, hb, hml, ho, -⟩ := S
  intro T hT X
  rcases vx_callS X hx (bytes := bytes) (maxL := maxL) (ret := ret) ho hl hstt hini hcode hy hK hg (hsize.trans hml.symm) (argsL := As) (rest := rest) (fun sig h => hn.trans (hlen sig h)) hstack hW (by rw [hb]; exact hdg)
    (fun vm₁ hW₁ => ⟨hf.1, hf.2, hp.2 (T.setVm vm₁) hT hW₁⟩) with ⟨v, vm₁, ⟨U', l2, c2, s2⟩, hW₁, X', ⟨g', mk, t, L, e1, e2, hq, h1, hL, h2, h3⟩, st⟩ | ⟨q, vm₁, ⟨U', l2, c2, s2⟩, hW₁, X', ⟨g', mk, t, L, E, ce, e1, e2, hq, hce, hcv, hcl, h1, hL, h2, h3⟩, st⟩
  · dsimp only [Pt.U, Pt.locs, Pt.cells, Pt.slots] at X' e1 e2 h1 h2 h3 st
    subst h1; subst h2; subst h3
    exact Or.inl ⟨v, (T.setVm vm₁).calling g' mk As.toArray, t, U', L, hT, X', hL, e1, e2, hq, st⟩
  · dsimp only [Pt.U, Pt.locs, Pt.cells, Pt.slots] at X' e1 e2 h1 h2 h3 st hcl
    subst h1; subst h2; subst h3
    exact Or.inr ⟨q, (T.setVm vm₁).calling g' mk As.toArray, t, U', L, E, ce, hT, X', hL, e1, e2, hq, hce, hcv, vx_cls hW₁ hcl, st⟩
end Runs
section Rows
variable {p : Program} {l : Launch} {e : Env} {R : Room} {s : State} {m : MethodId} {args : Array Value} {below : List Frame} {meth : Method} {c : Code} {H : Heap} {locs : List Loc} {cells slots : Nat} {Q : State → Prop}
variable {mc ms : Nat} {free : Addr → Prop} {A0 A1 : Nat → Prop} {H0 : Heap} {a : Array Value} {pc : Nat} {ls : Array Slot} {st0 rest : List Value}
theorem vx_keep {st₀ t T' : State} {L : List Loc} (h0 : st₀.heap = H) (e1 : T'.heap = t.heap) (hS : va_S A0 H0 H locs) (hA : ∀ q, q < H.size → A1 q → A0 q) (hf : ∀ q, free q → A0 q) (hL : ∀ q ∈ L, free q.base) (hF : va_F A1 st₀ t) :
    H.size ≤ T'.heap.size ∧ (∀ q : Nat, q < H.size → ¬ A1 q → T'.heap[q]? = H[q]?) ∧ va_S A0 H0 T'.heap (locs ++ L) := by
  obtain ⟨hz, hk⟩ := hF
  rw [h0] at hz hk
  exact ⟨by rw [e1]; exact hz, fun q h1 h2 => by rw [e1]; exact hk q h1 h2,
    ⟨Nat.le_trans hS.1 (by rw [e1]; exact hz), fun q h1 h2 => by rw [e1, hk q (Nat.lt_of_lt_of_le h1 hS.1) (fun z => h2 (hA q (Nat.lt_of_lt_of_le h1 hS.1) z))]; exact hS.2.1 q h1 h2, fun q hq => by
      rcases List.mem_append.mp hq with h | h
      · exact hS.2.2 q h
      · exact hf _ (hL q h)⟩⟩
theorem vx_calli {S SX : Type} {post : Int32 → S → Prop} {px : SX → Prop} {B : S → State → Prop} {BX : String → SX → State → Prop} {AX : Nat → Prop} (hr : vx_Run p l e R s m args below meth c H locs cells slots mc ms (F0 m pc ls st0) rest (va_Qi post B A1 a) (vx_X px BX AX) free) (hS : va_S A0 H0 H locs) (hA : ∀ q, q < H.size → A1 q → A0 q) (hf : ∀ q, free q → A0 q) (hAX : ∀ q, q < H.size → AX q → A0 q)
    (kx : ∀ (E : String) (ce : Cell) (q9 : Addr) (u : SX) (t : State) (H1 : Heap) (locs1 : List Loc), t.heap = H1 → s.vm.Alike t.vm → px u → BX E u t → H.size ≤ H1.size → (∀ q : Nat, q < H.size → ¬ AX q → H1[q]? = H[q]?) → va_S A0 H0 H1 locs1 → H1[q9]? = some ce → ce.vm = .none → s.vm.findClass E = some ce.cls → vx_W p l e R s m args below meth c H1 locs1 (cells + mc) (slots + ms) Q (F0 m pc ls rest) q9)
    (kk : ∀ (r : Int32) (u : S) (t : State) (H1 : Heap) (locs1 : List Loc), t.heap = H1 → s.vm.Alike t.vm → post r u → B u t → H.size ≤ H1.size → (∀ q : Nat, q < H.size → ¬ A1 q → H1[q]? = H[q]?) → va_S A0 H0 H1 locs1 → W p l e R s m args below meth c H1 locs1 (cells + mc) (slots + ms) Q (F0 m (pc + 3) ls (.int r :: rest))) : W p l e R s m args below meth c H locs cells slots Q (F0 m pc ls st0) := by
  intro T hT X
  rcases hr T hT X with ⟨v, st₀, t, T', L, h0, X', hL, e1, e2, ⟨⟨r, u, hv, hp, hb⟩, hF⟩, st⟩ | ⟨q, st₀, t, T', L, E, ce, h0, X', hL, e1, e2, ⟨u, hp, hb, hF⟩, hce, hcv, hcl, st⟩
  · cases hv
    obtain ⟨k1, k2, k3⟩ := vx_keep h0 e1 hS hA hf hL hF
    obtain ⟨t2, a1, b1⟩ := kk r u t T'.heap (locs ++ L) e1.symm (by rw [← e2]; exact X'.warmed.alike) hp hb k1 k2 k3 T' rfl X'
    exact ⟨t2, st t2 a1, b1⟩
  · obtain ⟨k1, k2, k3⟩ := vx_keep h0 e1 hS hAX hf hL hF
    obtain ⟨t2, a1, b1⟩ := kx E ce q u t T'.heap (locs ++ L) e1.symm (by rw [← e2]; exact X'.warmed.alike) hp hb k1 k2 k3 (by rw [e1]; exact hce) hcv hcl T' rfl X'
    exact ⟨t2, st.trans a1, b1⟩
theorem vx_calll {S SX : Type} {post : Int64 → S → Prop} {px : SX → Prop} {B : S → State → Prop} {BX : String → SX → State → Prop} {AX : Nat → Prop} (hr : vx_Run p l e R s m args below meth c H locs cells slots mc ms (F0 m pc ls st0) rest (va_Ql post B A1 a) (vx_X px BX AX) free) (hS : va_S A0 H0 H locs) (hA : ∀ q, q < H.size → A1 q → A0 q) (hf : ∀ q, free q → A0 q) (hAX : ∀ q, q < H.size → AX q → A0 q)
    (kx : ∀ (E : String) (ce : Cell) (q9 : Addr) (u : SX) (t : State) (H1 : Heap) (locs1 : List Loc), t.heap = H1 → s.vm.Alike t.vm → px u → BX E u t → H.size ≤ H1.size → (∀ q : Nat, q < H.size → ¬ AX q → H1[q]? = H[q]?) → va_S A0 H0 H1 locs1 → H1[q9]? = some ce → ce.vm = .none → s.vm.findClass E = some ce.cls → vx_W p l e R s m args below meth c H1 locs1 (cells + mc) (slots + ms) Q (F0 m pc ls rest) q9)
    (kk : ∀ (r : Int64) (u : S) (t : State) (H1 : Heap) (locs1 : List Loc), t.heap = H1 → s.vm.Alike t.vm → post r u → B u t → H.size ≤ H1.size → (∀ q : Nat, q < H.size → ¬ A1 q → H1[q]? = H[q]?) → va_S A0 H0 H1 locs1 → W p l e R s m args below meth c H1 locs1 (cells + mc) (slots + ms) Q (F0 m (pc + 3) ls (.long r :: rest))) : W p l e R s m args below meth c H locs cells slots Q (F0 m pc ls st0) := by
  intro T hT X
  rcases hr T hT X with ⟨v, st₀, t, T', L, h0, X', hL, e1, e2, ⟨⟨r, u, hv, hp, hb⟩, hF⟩, st⟩ | ⟨q, st₀, t, T', L, E, ce, h0, X', hL, e1, e2, ⟨u, hp, hb, hF⟩, hce, hcv, hcl, st⟩
  · cases hv
    obtain ⟨k1, k2, k3⟩ := vx_keep h0 e1 hS hA hf hL hF
    obtain ⟨t2, a1, b1⟩ := kk r u t T'.heap (locs ++ L) e1.symm (by rw [← e2]; exact X'.warmed.alike) hp hb k1 k2 k3 T' rfl X'
    exact ⟨t2, st t2 a1, b1⟩
  · obtain ⟨k1, k2, k3⟩ := vx_keep h0 e1 hS hAX hf hL hF
    obtain ⟨t2, a1, b1⟩ := kx E ce q u t T'.heap (locs ++ L) e1.symm (by rw [← e2]; exact X'.warmed.alike) hp hb k1 k2 k3 (by rw [e1]; exact hce) hcv hcl T' rfl X'
    exact ⟨t2, st.trans a1, b1⟩
theorem vx_callf {S SX : Type} {post : UInt32 → S → Prop} {px : SX → Prop} {B : S → State → Prop} {BX : String → SX → State → Prop} {AX : Nat → Prop} (hr : vx_Run p l e R s m args below meth c H locs cells slots mc ms (F0 m pc ls st0) rest (va_Qf post B A1 a) (vx_X px BX AX) free) (hS : va_S A0 H0 H locs) (hA : ∀ q, q < H.size → A1 q → A0 q) (hf : ∀ q, free q → A0 q) (hAX : ∀ q, q < H.size → AX q → A0 q)
    (kx : ∀ (E : String) (ce : Cell) (q9 : Addr) (u : SX) (t : State) (H1 : Heap) (locs1 : List Loc), t.heap = H1 → s.vm.Alike t.vm → px u → BX E u t → H.size ≤ H1.size → (∀ q : Nat, q < H.size → ¬ AX q → H1[q]? = H[q]?) → va_S A0 H0 H1 locs1 → H1[q9]? = some ce → ce.vm = .none → s.vm.findClass E = some ce.cls → vx_W p l e R s m args below meth c H1 locs1 (cells + mc) (slots + ms) Q (F0 m pc ls rest) q9)
    (kk : ∀ (r : UInt32) (u : S) (t : State) (H1 : Heap) (locs1 : List Loc), t.heap = H1 → s.vm.Alike t.vm → post r u → B u t → H.size ≤ H1.size → (∀ q : Nat, q < H.size → ¬ A1 q → H1[q]? = H[q]?) → va_S A0 H0 H1 locs1 → W p l e R s m args below meth c H1 locs1 (cells + mc) (slots + ms) Q (F0 m (pc + 3) ls (.float r :: rest))) : W p l e R s m args below meth c H locs cells slots Q (F0 m pc ls st0) := by
  intro T hT X
  rcases hr T hT X with ⟨v, st₀, t, T', L, h0, X', hL, e1, e2, ⟨⟨r, u, hv, hp, hb⟩, hF⟩, st⟩ | ⟨q, st₀, t, T', L, E, ce, h0, X', hL, e1, e2, ⟨u, hp, hb, hF⟩, hce, hcv, hcl, st⟩
  · cases hv
    obtain ⟨k1, k2, k3⟩ := vx_keep h0 e1 hS hA hf hL hF
    obtain ⟨t2, a1, b1⟩ := kk r u t T'.heap (locs ++ L) e1.symm (by rw [← e2]; exact X'.warmed.alike) hp hb k1 k2 k3 T' rfl X'
    exact ⟨t2, st t2 a1, b1⟩
  · obtain ⟨k1, k2, k3⟩ := vx_keep h0 e1 hS hAX hf hL hF
    obtain ⟨t2, a1, b1⟩ := kx E ce q u t T'.heap (locs ++ L) e1.symm (by rw [← e2]; exact X'.warmed.alike) hp hb k1 k2 k3 (by rw [e1]; exact hce) hcv hcl T' rfl X'
    exact ⟨t2, st.trans a1, b1⟩
theorem vx_calld {S SX : Type} {post : UInt64 → S → Prop} {px : SX → Prop} {B : S → State → Prop} {BX : String → SX → State → Prop} {AX : Nat → Prop} (hr : vx_Run p l e R s m args below meth c H locs cells slots mc ms (F0 m pc ls st0) rest (va_Qd post B A1 a) (vx_X px BX AX) free) (hS : va_S A0 H0 H locs) (hA : ∀ q, q < H.size → A1 q → A0 q) (hf : ∀ q, free q → A0 q) (hAX : ∀ q, q < H.size → AX q → A0 q)
    (kx : ∀ (E : String) (ce : Cell) (q9 : Addr) (u : SX) (t : State) (H1 : Heap) (locs1 : List Loc), t.heap = H1 → s.vm.Alike t.vm → px u → BX E u t → H.size ≤ H1.size → (∀ q : Nat, q < H.size → ¬ AX q → H1[q]? = H[q]?) → va_S A0 H0 H1 locs1 → H1[q9]? = some ce → ce.vm = .none → s.vm.findClass E = some ce.cls → vx_W p l e R s m args below meth c H1 locs1 (cells + mc) (slots + ms) Q (F0 m pc ls rest) q9)
    (kk : ∀ (r : UInt64) (u : S) (t : State) (H1 : Heap) (locs1 : List Loc), t.heap = H1 → s.vm.Alike t.vm → post r u → B u t → H.size ≤ H1.size → (∀ q : Nat, q < H.size → ¬ A1 q → H1[q]? = H[q]?) → va_S A0 H0 H1 locs1 → W p l e R s m args below meth c H1 locs1 (cells + mc) (slots + ms) Q (F0 m (pc + 3) ls (.double r :: rest))) : W p l e R s m args below meth c H locs cells slots Q (F0 m pc ls st0) := by
  intro T hT X
  rcases hr T hT X with ⟨v, st₀, t, T', L, h0, X', hL, e1, e2, ⟨⟨r, u, hv, hp, hb⟩, hF⟩, st⟩ | ⟨q, st₀, t, T', L, E, ce, h0, X', hL, e1, e2, ⟨u, hp, hb, hF⟩, hce, hcv, hcl, st⟩
  · cases hv
    obtain ⟨k1, k2, k3⟩ := vx_keep h0 e1 hS hA hf hL hF
    obtain ⟨t2, a1, b1⟩ := kk r u t T'.heap (locs ++ L) e1.symm (by rw [← e2]; exact X'.warmed.alike) hp hb k1 k2 k3 T' rfl X'
    exact ⟨t2, st t2 a1, b1⟩
  · obtain ⟨k1, k2, k3⟩ := vx_keep h0 e1 hS hAX hf hL hF
    obtain ⟨t2, a1, b1⟩ := kx E ce q u t T'.heap (locs ++ L) e1.symm (by rw [← e2]; exact X'.warmed.alike) hp hb k1 k2 k3 (by rw [e1]; exact hce) hcv hcl T' rfl X'
    exact ⟨t2, st.trans a1, b1⟩
theorem vx_callv {S SX : Type} {post : S → Prop} {px : SX → Prop} {B : S → State → Prop} {BX : String → SX → State → Prop} {AX : Nat → Prop} (hr : vx_Run p l e R s m args below meth c H locs cells slots mc ms (F0 m pc ls st0) rest (va_Qv post B A1 a) (vx_X px BX AX) free) (hS : va_S A0 H0 H locs) (hA : ∀ q, q < H.size → A1 q → A0 q) (hf : ∀ q, free q → A0 q) (hAX : ∀ q, q < H.size → AX q → A0 q)
    (kx : ∀ (E : String) (ce : Cell) (q9 : Addr) (u : SX) (t : State) (H1 : Heap) (locs1 : List Loc), t.heap = H1 → s.vm.Alike t.vm → px u → BX E u t → H.size ≤ H1.size → (∀ q : Nat, q < H.size → ¬ AX q → H1[q]? = H[q]?) → va_S A0 H0 H1 locs1 → H1[q9]? = some ce → ce.vm = .none → s.vm.findClass E = some ce.cls → vx_W p l e R s m args below meth c H1 locs1 (cells + mc) (slots + ms) Q (F0 m pc ls rest) q9)
    (kk : ∀ (u : S) (t : State) (H1 : Heap) (locs1 : List Loc), t.heap = H1 → s.vm.Alike t.vm → post u → B u t → H.size ≤ H1.size → (∀ q : Nat, q < H.size → ¬ A1 q → H1[q]? = H[q]?) → va_S A0 H0 H1 locs1 → W p l e R s m args below meth c H1 locs1 (cells + mc) (slots + ms) Q (F0 m (pc + 3) ls (rest))) : W p l e R s m args below meth c H locs cells slots Q (F0 m pc ls st0) := by
  intro T hT X
  rcases hr T hT X with ⟨v, st₀, t, T', L, h0, X', hL, e1, e2, ⟨⟨u, hv, hp, hb⟩, hF⟩, st⟩ | ⟨q, st₀, t, T', L, E, ce, h0, X', hL, e1, e2, ⟨u, hp, hb, hF⟩, hce, hcv, hcl, st⟩
  · cases hv
    obtain ⟨k1, k2, k3⟩ := vx_keep h0 e1 hS hA hf hL hF
    obtain ⟨t2, a1, b1⟩ := kk u t T'.heap (locs ++ L) e1.symm (by rw [← e2]; exact X'.warmed.alike) hp hb k1 k2 k3 T' rfl X'
    exact ⟨t2, st t2 a1, b1⟩
  · obtain ⟨k1, k2, k3⟩ := vx_keep h0 e1 hS hAX hf hL hF
    obtain ⟨t2, a1, b1⟩ := kx E ce q u t T'.heap (locs ++ L) e1.symm (by rw [← e2]; exact X'.warmed.alike) hp hb k1 k2 k3 (by rw [e1]; exact hce) hcv hcl T' rfl X'
    exact ⟨t2, st.trans a1, b1⟩
/-- caught by the row x of this method's table; the rows ahead don't take it -/
theorem vx_catch {own name : String} {E : String} {ce : Cell} {q : Addr} (hown : s.vm.findClass own = some m.cls) (pre : List ExceptionTableEntry) (x : ExceptionTableEntry) (suf : List ExceptionTableEntry) (hsplit : c.exceptionTable.toList = pre ++ x :: suf)
    (hpass : ∀ z ∈ pre, covers z pc = false ∨ (z.catchType ≠ 0 ∧ ∃ nm : String, (Cond.classLink own z.catchType nm).before args s = true ∧ va_Nc E nm s)) (hx : covers x pc = true) (h0 : x.catchType ≠ 0)
    (hlink : (Cond.classLink own x.catchType name).before args s = true) (hcast : (Cond.castable E name).before args s = true) (hcell : H[q]? = some ce) (hv : ce.vm = .none) (hcl : s.vm.findClass E = some ce.cls)
    (kk : W p l e R s m args below meth c H locs cells slots Q (F0 m x.handlerPc ls [.ref q])) : vx_W p l e R s m args below meth c H locs cells slots Q (F0 m pc ls rest) q := by
  intro T hT X
  have hpl : e.platform.magicAccessors = ({} : Platform).magicAccessors := by rw [X.admits.platform]
  obtain ⟨c3, c4, hc3, hc4, hasg⟩ := Cond.castable_spec hcast
  cases Option.some.inj (hc3.symm.trans hcl)
  obtain ⟨c5, hc5, hcl5⟩ := Cond.classLink_spec hown hlink e.platform hpl
  cases Option.some.inj (hc4.symm.trans hc5)
  obtain ⟨vm', X', st⟩ := X.thenCaughtThrough q (g := F0 m pc ls rest) rfl (Steps.refl _) (by rw [hT]; exact hcell) (by rw [hv]; rfl) (by obtain ⟨k9, h9, -⟩ := Vm.findClass_spec hcl; exact ⟨k9, h9⟩) pre x suf hsplit
    (fun z hz => by
      rcases hpass z hz with h | ⟨hz0, nm, hl1, hn1⟩
      · exact Or.inl h
      · obtain ⟨c6, hc6, hcl6⟩ := Cond.classLink_spec hown hl1 e.platform hpl
        obtain ⟨a8, b8, h1, h2, h3⟩ := hn1
        cases Option.some.inj (h1.symm.trans hcl)
        cases Option.some.inj (h2.symm.trans hc6)
        exact Or.inr ⟨hz0, _, hcl6, h3⟩) hx (Or.inr ⟨h0, c4, hcl5, hasg⟩)
  obtain ⟨t, a1, b1⟩ := kk (T.setVm vm') hT X'
  exact ⟨t, st.trans a1, b1⟩
end Rows
section Ends
variable {p : Program} {l : Launch} {e : Env} {R : Room} {s : State} {m : MethodId} {args : Array Value} {below : List Frame} {meth : Method} {c : Code} {H : Heap} {locs : List Loc} {cells slots : Nat} {Q : State → Prop}
variable {mc ms : Nat} {free : Addr → Prop} {A0 A1 : Nat → Prop} {H0 : Heap} {a : Array Value} {ls : Array Slot} {st0 rest : List Value}
variable {Qc : Array Value → State → Outcome → State → Prop} {XC : String → State → State → Prop}
/-- what a body that may throw owes at its end -/
def vx_MQ (below : List Frame) (Qc : Array Value → State → Outcome → State → Prop) (XC : String → State → State → Prop) (a : Array Value) (s : State) (mc ms : Nat) (free : Addr → Prop) : State → Prop := fun t =>
  ∃ o, t.status = .running ∧ Ended t below o ∧ vx_Q Qc XC mc ms free a s o t
theorem vx_ret {g : JFrame} {mc ms : Nat} (k : W p l e R s m args below meth c H locs cells slots (MQ below Qc args s mc ms free) g) : W p l e R s m args below meth c H locs cells slots (vx_MQ below Qc XC args s mc ms free) g := by
  intro T hT X
  obtain ⟨t, a1, o, b1, b2, b3, b4⟩ := k T hT X
  exact ⟨t, a1, o, b1, b2, Or.inl ⟨b3, b4⟩⟩
/-- not caught here: it goes on to the caller -/
theorem vx_widen {g : JFrame} {q : Addr} {k n : Nat} (h1 : cells ≤ k) (h2 : slots ≤ n) (kk : vx_W p l e R s m args below meth c H locs k n Q g q) : vx_W p l e R s m args below meth c H locs cells slots Q g q := fun T hT X => kk T hT (stand_widen X h1 h2)
theorem vx_out {pc : Nat} {E : String} {ce : Cell} {q : Addr} {mc ms : Nat} (hout : ∀ x ∈ c.exceptionTable.toList, covers x pc = false) (hlocks : meth.locks = false) (hcell : H[q]? = some ce) (hv : ce.vm = .none) (hcl : s.vm.findClass E = some ce.cls)
    (hx : ∀ t : State, t.heap = H → s.vm.Alike t.vm → XC E s t) (hf : ∀ z ∈ locs, free z.base) (hc : cells ≤ mc) (hs : slots ≤ ms) :
    vx_W p l e R s m args below meth c H locs cells slots (vx_MQ below Qc XC args s mc ms free) (F0 m pc ls rest) q := by
  intro T hT X
  obtain ⟨st1, hrun, hend, hW, hsm⟩ := X.leaveThrown q (g := F0 m pc ls rest) rfl rfl rfl hout hlocks
  have hcell9 : (T.setFrames (.throwing q :: below)).heap[q]? = some ce := by
    show T.heap[q]? = some ce
    rw [hT]; exact hcell
  exact ⟨_, st1, .threw q, hrun, hend, Or.inr ⟨q, rfl, E, ce, locs, hx _ hT hW.alike, hcell9, hv, hcl, hW, hsm.mono hc hs, hf⟩⟩
theorem vx_frame {U : State} {k n : Nat} (h : s.sameButNew ({ U with vm := s.vm } : State) locs k n) : s.heap.size ≤ U.heap.size ∧ ∀ q : Nat, q < s.heap.size → (∀ z ∈ locs, z.base ≠ q) → U.heap[q]? = s.heap[q]? := by
  obtain ⟨-, h2, -, -, -, h6⟩ := h
  refine ⟨h2, fun q hq hz => ?_⟩
  obtain ⟨c9, e1, e2, e3, e4⟩ := h6 q _ (Array.getElem?_eq_getElem hq)
  have hs : c9.slots = (s.heap[q]).slots := Array.ext_getElem? fun i => e4 i fun hm => hz _ hm rfl
  have h9 : c9 = s.heap[q] := by
    rw [hs] at e2
    exact e2
  have e5 : U.heap[q]? = some c9 := e1
  rw [e5, h9, Array.getElem?_eq_getElem hq]
/-- the words of a throw but the four that speak of the heap -/
def vx_no (w : Cond) : Bool := decide (w ≠ .isRef (.static Bundle.tN "UNASSIGNED_STACK" Bundle.steD)) && decide (w ≠ .isRef (.static Bundle.tN "SUPPRESSED_SENTINEL" Bundle.listD)) && decide (w ≠ .laysStatic Bundle.tN "UNASSIGNED_STACK" Bundle.steD) && decide (w ≠ .laysStatic Bundle.tN "SUPPRESSED_SENTINEL" Bundle.listD)
def vx_at0 (own : String) (ic : Nat) (X : String) (names : List String) : List Cond := (Bundle.ownAtoms0 own ic X names).filter vx_no
def vx_atS (own : String) (ic : Nat) (X : String) (names : List String) : List Cond := (Bundle.ownAtoms own ic X names).filter vx_no
/-- a word that the tables alone decide, or a good one -/
def vx_ot (w : Cond) : Bool := w.onTables || goodWord w
theorem vx_ot_at {args a' : Array Value} {s U : State} {w : Cond} (hW : s.WarmedH U.vm) (hvm : s.vm = U.vm) (hg : vx_ot w = true) (h : w.before args s = true) : w.before a' U = true := by
  simp only [vx_ot, Bool.or_eq_true] at hg
  rcases hg with hg | hg
  · exact va_tabs hg hvm h
  · exact word_at hW (good_of_word hg) h
/-- a list's words: the good ones out of the method's own list, the others by premises of their own -/
theorem vx_hat {args : Array Value} {s : State} {L B : List Cond} (h1 : ∀ w ∈ L.filter goodWord, w.before args s = true) (h2 : ∀ w ∈ L.filter (fun w => !goodWord w), w ∈ B) (h3 : ∀ w ∈ B, w.before args s = true) : ∀ w ∈ L, w.before args s = true := by
  intro w hw
  by_cases g : goodWord w = true
  · exact h1 w (List.mem_filter.mpr ⟨hw, g⟩)
  · refine h3 w (h2 w (List.mem_filter.mpr ⟨hw, ?_⟩))
    show (!goodWord w) = true
    cases hgw : goodWord w
    · rfl
    · exact absurd hgw g
theorem vx_c {args : Array Value} {s : State} {w : Cond} {B : List Cond} (h : w.before args s = true) (t : ∀ w ∈ B, w.before args s = true) : ∀ w' ∈ w :: B, w'.before args s = true := fun w' h' => (List.mem_cons.mp h').elim (fun e => by rw [e]; exact h) (t w')
theorem vx_n {args : Array Value} {s : State} : ∀ w ∈ ([] : List Cond), w.before args s = true := fun _ h => nomatch h
theorem vx_own {args : Array Value} {s : State} {L : List Cond} (h1 : ∀ w ∈ L.filter vx_no, w.before args s = true)
    (hU : (Cond.isRef (.static Bundle.tN "UNASSIGNED_STACK" Bundle.steD)).before args s = true) (hN : (Cond.isRef (.static Bundle.tN "SUPPRESSED_SENTINEL" Bundle.listD)).before args s = true)
    (lU : (Cond.laysStatic Bundle.tN "UNASSIGNED_STACK" Bundle.steD).before args s = true) (lN : (Cond.laysStatic Bundle.tN "SUPPRESSED_SENTINEL" Bundle.listD).before args s = true) : ∀ w ∈ L, w.before args s = true := by
  intro w hw
  by_cases e1 : w = .isRef (.static Bundle.tN "UNASSIGNED_STACK" Bundle.steD)
  · rw [e1]; exact hU
  · by_cases e2 : w = .isRef (.static Bundle.tN "SUPPRESSED_SENTINEL" Bundle.listD)
    · rw [e2]; exact hN
    · by_cases e3 : w = .laysStatic Bundle.tN "UNASSIGNED_STACK" Bundle.steD
      · rw [e3]; exact lU
      · by_cases e4 : w = .laysStatic Bundle.tN "SUPPRESSED_SENTINEL" Bundle.listD
        · rw [e4]; exact lN
        · exact h1 w (List.mem_filter.mpr ⟨hw, by unfold vx_no; rw [decide_eq_true e1, decide_eq_true e2, decide_eq_true e3, decide_eq_true e4]; rfl⟩)
/-- where a static field lies, its class's statics cell in H -/
def vx_L (C n d : String) (A : Nat → Prop) (U : State) (H : Heap) : Prop := ∃ (c : ClassId) (k : Class) (i : Nat) (f : Field) (a : Nat) (cell : Cell), U.vm.findClass C = some c ∧ U.fieldFound? C n d = some (c, k, i, f) ∧ f.isStatic = true ∧ k.statics = some a ∧ H[a]? = some cell ∧ cell.vm.isStatics = true ∧ cell.cls = c ∧ f.slot < cell.slots.size ∧ k.staticTypes[f.slot]? = some f.type ∧ ¬ A a
theorem vx_L.moved {C n d : String} {A : Nat → Prop} {u U : State} {H : Heap} (hvm : u.vm.Alike U.vm) (h : vx_L C n d A u H) : vx_L C n d A U H := by
  obtain ⟨c, k, i, f, a, cell, h1, h2, h3, h4, h5, h6, h7, h8, h9, h10⟩ := h
  obtain ⟨k', hi', he⟩ := State.fieldFound?_setVm hvm h2
  exact ⟨c, k', i, f, a, cell, by rw [hvm.findClass]; exact h1, hi', h3, by rw [he]; exact h4, h5, h6, h7, h8, by rw [he]; exact h9, h10⟩
theorem vx_L.kept {C n d : String} {A : Nat → Prop} {U : State} {H H1 : Heap} (h : vx_L C n d A U H) (hq : ∀ a : Nat, a < H.size → ¬ A a → H1[a]? = H[a]?) : vx_L C n d A U H1 := by
  obtain ⟨c, k, i, f, a, cell, h1, h2, h3, h4, h5, h6, h7, h8, h9, h10⟩ := h
  exact ⟨c, k, i, f, a, cell, h1, h2, h3, h4, by rw [hq a (Array.getElem?_eq_some_iff.mp h5).1 h10]; exact h5, h6, h7, h8, h9, h10⟩
theorem vx_L.narrow {C n d : String} {A B : Nat → Prop} {U : State} {H : Heap} (h : vx_L C n d A U H) (hAB : ∀ q, B q → A q) : vx_L C n d B U H := by
  obtain ⟨c, k, i, f, a, cell, h1, h2, h3, h4, h5, h6, h7, h8, h9, h10⟩ := h
  exact ⟨c, k, i, f, a, cell, h1, h2, h3, h4, h5, h6, h7, h8, h9, fun z => h10 (hAB _ z)⟩
theorem vx_L.word {C n d : String} {A : Nat → Prop} {s : State} {args : Array Value} (h : vx_L C n d A s s.heap) : (Cond.laysStatic C n d).before args s = true := by
  obtain ⟨c, k, i, f, a, cell, h1, h2, h3, h4, h5, h6, h7, h8, h9, -⟩ := h
  show (Cond.laysStatic C n d).holds args s none s [] = true
  exact Cond.laysStatic_of h1 h2 h3 h4 h5 h6 h7 h8 h9
/-- .. and what it holds: null or some reference -/
def vx_Zq (C n d : String) (A : Nat → Prop) (U : State) (H : Heap) : Prop := va_Zq C n d A U H ∧ vx_L C n d A U H
theorem vx_Zq.moved {C n d : String} {A : Nat → Prop} {u U : State} {H : Heap} (hvm : u.vm.Alike U.vm) (h : vx_Zq C n d A u H) : vx_Zq C n d A U H := ⟨va_Zq.moved hvm h.1, vx_L.moved hvm h.2⟩
theorem vx_Zq.kept {C n d : String} {A : Nat → Prop} {U : State} {H H1 : Heap} (h : vx_Zq C n d A U H) (hq : ∀ a : Nat, a < H.size → ¬ A a → H1[a]? = H[a]?) : vx_Zq C n d A U H1 := ⟨va_Zq.kept h.1 hq, vx_L.kept h.2 hq⟩
theorem vx_Zq.narrow {C n d : String} {A B : Nat → Prop} {U : State} {H : Heap} (h : vx_Zq C n d A U H) (hAB : ∀ q, B q → A q) : vx_Zq C n d B U H := ⟨va_Zq.narrow h.1 hAB, vx_L.narrow h.2 hAB⟩
theorem vx_Zqof {args : Array Value} {s : State} {C n d : String} {A : Nat → Prop} (hl : (Cond.laysStatic C n d).before args s = true) (hini : (Cond.initialized C).before args s = true) (h : (Cond.isRef (.static C n d)).before args s = true) (hA : ∀ a : Nat, a < s.heap.size → ¬ A a) : vx_Zq C n d A s s.heap := by
  refine ⟨va_Zqof hl hini h hA, ?_⟩
  obtain ⟨c, k, i, f, a, cell, h1, h2, h3, h4, h5, h6, h7, h8, h9⟩ := Cond.laysStatic_spec hl
  exact ⟨c, k, i, f, a, cell, h1, h2, h3, h4, h5, h6, h7, h8, h9, hA a (Array.getElem?_eq_some_iff.mp h5).1⟩
theorem vx_isRef {C n d : String} {v : Value} {A : Nat → Prop} {s : State} {args : Array Value} (h : va_Z C n d v A s s.heap) (hv : v.isRef = true) : (Cond.isRef (.static C n d)).before args s = true := by
  obtain ⟨cf, kf, fi, f, a, cell, h1, h2, h3, h4, h5, h6, h7, -⟩ := h
  have he : (Term.static C n d).eval args s none [] s = some v := by
    simp [Term.eval, State.fieldNamed?, h1, h2, h4, h5, h6, h7]
  simp only [Cond.before, Cond.holds, Cond.value, he]
  cases v <;> simp_all [Value.isRef]
theorem vx_isRefq {C n d : String} {A : Nat → Prop} {s : State} {args : Array Value} (h : va_Zq C n d A s s.heap) : (Cond.isRef (.static C n d)).before args s = true := by
  rcases h with h | ⟨t, h⟩
  · exact vx_isRef h rfl
  · exact vx_isRef h rfl
/-- the same frame, seen from here: as if the method were called anew in this heap -/
theorem vx_rebase {T : State} (X : Stand p l e R s m args below meth c T locs cells slots) {R' : Room} (hf : R'.frames ≤ R.frames) (hl : R'.locals ≤ R.locals) (hc : cells + R'.cells ≤ R.cells) (hs : slots + R'.slots ≤ R.slots) :
    Stand p l e R' ((T.setVm s.vm).setFrames (.invoking m args :: below)) m args below meth c T [] 0 0 := by
  have htop : (T.setVm s.vm).topJava?.isSome := X.here.top
  have hF : ((T.setVm s.vm).setFrames (.invoking m args :: below)).frames = .invoking m args :: below := State.frames_setFrames _ (State.cur_lt_of_top htop)
  obtain ⟨g₀, hg0⟩ := Option.isSome_iff_exists.mp htop
  obtain ⟨r, hr⟩ := State.topJava?_eq_some.mp hg0
  have hl9 : e.platform.stackLimits (T.setVm s.vm).me = e.platform.stackLimits s.me := X.limits
  have hb9 : (T.setVm s.vm).me.stackBytes = s.me.stackBytes := X.bytes
  refine ⟨X.admits, X.cas, X.clock, hF, ?_, X.hears, X.method, X.code, X.here, X.tail, X.warmed, ?_, ?_, ?_⟩
  · have h := X.room
    have hU : ((T.setVm s.vm).setFrames (.invoking m args :: below)).localsInUse = s.localsInUse := by
      rw [State.localsInUse_invoking hF (meth := meth) (c := c) X.method X.code, State.localsInUse_invoking X.frames X.method X.code]
    simp only [State.hasRoom, Bool.and_eq_true, decide_eq_true_eq] at h ⊢
    obtain ⟨⟨⟨⟨h1, h2, h3, h4, h5, h6⟩, h7⟩, h8⟩, h9⟩ := h
    rw [X.frames, List.length_cons] at h2 h3
    have q1 := X.heapSize
    have q2 := X.used
    simp only [hF, hU, List.length_cons, State.stackLimits_setFrames, State.stackBytes_setFrames, hl9, hb9]
    refine ⟨⟨⟨⟨by omega, by omega, by omega, by omega, by omega, h6⟩, ?_⟩, ?_⟩, X.book⟩
    · show T.heap.size + R'.cells ≤ e.platform.maxCells
      omega
    · show T.slotsUsed + R'.slots ≤ e.platform.maxSlots
      omega
  · rw [State.stackLimits_setFrames]; rfl
  · rw [State.stackBytes_setFrames]; rfl
  · refine ⟨?_, Nat.le_refl _, Nat.le_refl _, ?_, ?_, fun a c9 h9 => ⟨c9, h9, rfl, rfl, fun _ _ => rfl⟩⟩
    · obtain ⟨t, ht, -⟩ := State.frames_cons hr
      show T.setVm s.vm = { ((T.setVm s.vm).setFrames (.invoking m args :: below)).setFrames (T.setVm s.vm).frames with heap := T.heap, slotsUsed := T.slotsUsed }
      rw [State.setFrames_setFrames, State.setFrames_self ht]
      rfl
    · show T.slotsUsed = T.slotsUsed + ((T.heap.toList.drop T.heap.size).map (·.slots.size)).sum
      rw [List.drop_eq_nil_of_le (Nat.le_of_eq Array.length_toList)]
      rfl
    · show ((T.heap.toList.drop T.heap.size).map (·.slots.size)).sum ≤ 0
      rw [List.drop_eq_nil_of_le (Nat.le_of_eq Array.length_toList)]
      exact Nat.le_refl _
/-- 'throw new E()': new; dup; invokespecial; athrow -/
theorem vx_throw0 {cc : ByteArray} {pc : Nat} (hexec : p.tables.exec = Jvm.exec) (hb : c.code = cc) (hl : l.stackTraces = false) {own cls : String} {names : List String} {ik ic mc ms : Nat} {A : Nat → Prop}
    (hown : s.vm.findClass own = some m.cls) (hcls : Bundle.fit cls = true) (hnames : ∀ n ∈ names, Bundle.fit n = true)
    (hk : (Cond.classLink own ik cls).before args s = true) (hini : (Cond.initialized cls).before args s = true) (hat : ∀ w ∈ vx_at0 own ic cls names, w.before args s = true)
    (hgood : ∀ w ∈ Cond.classLink own ik cls :: Cond.initialized cls :: vx_at0 own ic cls names, vx_ot w = true)
    (hU : vx_Zq Bundle.tN "UNASSIGNED_STACK" Bundle.steD A s s.heap) (hN : vx_Zq Bundle.tN "SUPPRESSED_SENTINEL" Bundle.listD A s s.heap) (hS : va_S A s.heap H locs) (hsize : ls.size = c.maxLocals)
    (d0 : decode cc pc = .ok (.new ik, 3)) (d3 : decode cc (pc + 3) = .ok (.dup, 1)) (d4 : decode cc (pc + 4) = .ok (.invokespecial ic, 3)) (d7 : decode cc (pc + 7) = .ok (.athrow, 1))
    (hout : ∀ x ∈ c.exceptionTable.toList, covers x (pc + 7) = false)
    (hRframes : names.length + 3 < R.frames) (hRlocals : (rest.map fun v => v.category).sum + (13 * (names.length + 1) + 42) ≤ R.locals) (hRcells : cells + 1 ≤ R.cells) (hRslots : slots + 6 ≤ R.slots) (hlocks : meth.locks = false)
    (hx : ∀ t : State, s.vm.Alike t.vm → H.size ≤ t.heap.size → (∀ q : Nat, q < H.size → t.heap[q]? = H[q]?) → XC cls s t)
    (hf : ∀ z ∈ locs, free z.base) (hc : cells + 1 ≤ mc) (hs : slots + 6 ≤ ms) :
    W p l e R s m args below meth c H locs cells slots (vx_MQ below Qc XC args s mc ms free) (F0 m pc ls rest) := by
  intro T hT X
  have htr : e.platform.stackTraces = false := (show e.platform.stackTraces = l.stackTraces by rw [X.admits.platform]).trans hl
  have Y := vx_rebase X (R' := { frames := R.frames, locals := R.locals, cells := 1, slots := 6 }) (Nat.le_refl _) (Nat.le_refl _) hRcells hRslots
  obtain ⟨s', hA⟩ : ∃ z, z = (T.setVm s.vm).setFrames (.invoking m args :: below) := ⟨_, rfl⟩
  rw [← hA] at Y
  have hvm : s'.vm = s.vm := by rw [hA]; rfl
  have hhp : s'.heap = H := by rw [hA]; exact hT
  have hW0 : s.WarmedH s'.vm := by rw [hvm]; exact State.WarmedH.refl s
  have hat' : ∀ w ∈ vx_at0 own ic cls names, w.before args s' = true := fun w hw => vx_ot_at hW0 hvm.symm (hgood w (List.mem_cons_of_mem _ (List.mem_cons_of_mem _ hw))) (hat w hw)
  have hk' : (Cond.classLink own ik cls).before args s' = true := vx_ot_at hW0 hvm.symm (hgood _ List.mem_cons_self) hk
  have hini' : (Cond.initialized cls).before args s' = true := vx_ot_at hW0 hvm.symm (hgood _ (List.mem_cons_of_mem _ List.mem_cons_self)) hini
  have hU' : vx_Zq Bundle.tN "UNASSIGNED_STACK" Bundle.steD A s' s'.heap := by rw [hhp]; exact vx_Zq.moved hW0.alike (hU.kept hS.2.1)
  have hN' : vx_Zq Bundle.tN "SUPPRESSED_SENTINEL" Bundle.listD A s' s'.heap := by rw [hhp]; exact vx_Zq.moved hW0.alike (hN.kept hS.2.1)
  have h : ∀ w ∈ Bundle.ownAtoms0 own ic cls names, w.before args s' = true := vx_own hat' (vx_isRefq hU'.1) (vx_isRefq hN'.1) hU'.2.word hN'.2.word
  have hown' : s'.vm.findClass own = some m.cls := by rw [hvm]; exact hown
  have hins : (Cond.instantiable cls 6).before args s' = true := h _ (by simp [Bundle.ownAtoms0])
  obtain ⟨vm₁, cX, kX, hfX, hkX, -, -, X₁, st1⟩ := Y.newCold hexec (own := own) (C := cls) (index := ik) (n := 6) hown' hk' hins hini'
    (g := F0 m pc ls rest) rfl (by rw [hb]; exact d0) (Nat.le_refl _) (Nat.le_refl _)
  generalize hT1 : (T.setVm vm₁).pushCell { cls := cX, slots := kX.instanceTypes.map defaultValue, vm := .none } = T1 at X₁ st1
  have hcat : (Value.ref T.heap.size).category = 1 := rfl
  have hcellA : T1.heap[T.heap.size]? = some (freshCell cX kX) := by rw [← hT1]; exact State.heap_pushCell_size _ _
  have d3' : decode c.code (pc + 3) = .ok (.dup, 1) := by rw [hb]; exact d3
  obtain ⟨U, hsteps, hrun, hend, hW, hsame, ce, hce, hO⟩ := X₁.ctorThrow0 hexec htr (own := own) (cls := cls) (names := names) (ic := ic) hown' hcls hnames h (fun x hx => nomatch hx) hfX hkX hcellA (by rw [hhp, hT]; exact Nat.le_refl _)
    (g := { method := m, pc := pc + 4, locals := ls, stack := .ref T.heap.size :: .ref T.heap.size :: rest, locked := none }) rfl hsize rfl rfl (rest := rest) rfl
    (by rw [hb]; exact d4) (by rw [hb]; exact d7) hout hRframes (by simp only [List.map_cons, List.sum_cons, hcat]; omega) hlocks
  obtain ⟨f1, f2⟩ := vx_frame hsame
  rw [hhp] at f1 f2
  have hWs : s.WarmedH U.vm := State.WarmedH.trans hW0 hW
  have hcl : s.vm.findClass cls = some ce.cls := by
    have h9 := hO.cls
    rw [hvm] at h9
    exact h9
  have hall : s.sameButNew ({ U with vm := s.vm } : State) locs mc ms := by
    subst hA
    obtain ⟨e1, e2⟩ := hsame
    rw [State.setFrames_setFrames] at e1
    have h2 : (T.setVm s.vm).sameButNew ({ U with vm := s.vm } : State) [] (0 + 1) (0 + 6) := ⟨e1, e2⟩
    have h3 := X.same.trans h2
    rw [List.append_nil] at h3
    exact h3.mono hc hs
  refine ⟨U, ?_, .threw T.heap.size, hrun, hend, Or.inr ⟨T.heap.size, rfl, cls, ce, locs, hx U hWs.alike f1 (fun q hq => f2 q hq (fun z hz => nomatch hz)), hce, hO.vm, hcl, hWs, hall, hf⟩⟩
  refine st1 _ ?_
  show Steps p.tables e below (T1.setTop { method := m, pc := pc + 3, locals := ls, stack := .ref T.heap.size :: rest, locked := none }) _
  jvm_step X₁.here [X₁.here.top, hexec, d3', Value.category]
  exact hsteps
/-- 'throw new E("text")': new; dup; ldc; invokespecial; athrow -/
theorem vx_throwS {cc : ByteArray} {pc : Nat} (hexec : p.tables.exec = Jvm.exec) (hb : c.code = cc) (hl : l.stackTraces = false) {own cls text : String} {names : List String} {ik is ic mc ms sa : Nat} {A : Nat → Prop}
    (hown : s.vm.findClass own = some m.cls) (hcls : Bundle.fit cls = true) (hnames : ∀ n ∈ names, Bundle.fit n = true)
    (hk : (Cond.classLink own ik cls).before args s = true) (hini : (Cond.initialized cls).before args s = true) (hstr : vk_R own is text sa s) (hat : ∀ w ∈ vx_atS own ic cls names, w.before args s = true)
    (hgood : ∀ w ∈ Cond.classLink own ik cls :: Cond.initialized cls :: vx_atS own ic cls names, vx_ot w = true)
    (hU : vx_Zq Bundle.tN "UNASSIGNED_STACK" Bundle.steD A s s.heap) (hN : vx_Zq Bundle.tN "SUPPRESSED_SENTINEL" Bundle.listD A s s.heap) (hS : va_S A s.heap H locs) (hsize : ls.size = c.maxLocals)
    (d0 : decode cc pc = .ok (.new ik, 3)) (d3 : decode cc (pc + 3) = .ok (.dup, 1)) (d4 : decode cc (pc + 4) = .ok (.ldc is, 2)) (d6 : decode cc (pc + 6) = .ok (.invokespecial ic, 3)) (d9 : decode cc (pc + 9) = .ok (.athrow, 1))
    (hout : ∀ x ∈ c.exceptionTable.toList, covers x (pc + 9) = false)
    (hRframes : names.length + 3 < R.frames) (hRlocals : (rest.map fun v => v.category).sum + (13 * (names.length + 1) + 43) ≤ R.locals) (hRcells : cells + 1 ≤ R.cells) (hRslots : slots + 6 ≤ R.slots) (hlocks : meth.locks = false)
    (hx : ∀ t : State, s.vm.Alike t.vm → H.size ≤ t.heap.size → (∀ q : Nat, q < H.size → t.heap[q]? = H[q]?) → XC cls s t)
    (hf : ∀ z ∈ locs, free z.base) (hc : cells + 1 ≤ mc) (hs : slots + 6 ≤ ms) :
    W p l e R s m args below meth c H locs cells slots (vx_MQ below Qc XC args s mc ms free) (F0 m pc ls rest) := by
  intro T hT X
  have htr : e.platform.stackTraces = false := (show e.platform.stackTraces = l.stackTraces by rw [X.admits.platform]).trans hl
  have Y := vx_rebase X (R' := { frames := R.frames, locals := R.locals, cells := 1, slots := 6 }) (Nat.le_refl _) (Nat.le_refl _) hRcells hRslots
  obtain ⟨s', hA⟩ : ∃ z, z = (T.setVm s.vm).setFrames (.invoking m args :: below) := ⟨_, rfl⟩
  rw [← hA] at Y
  have hvm : s'.vm = s.vm := by rw [hA]; rfl
  have hhp : s'.heap = H := by rw [hA]; exact hT
  have hW0 : s.WarmedH s'.vm := by rw [hvm]; exact State.WarmedH.refl s
  have hat' : ∀ w ∈ vx_atS own ic cls names, w.before args s' = true := fun w hw => vx_ot_at hW0 hvm.symm (hgood w (List.mem_cons_of_mem _ (List.mem_cons_of_mem _ hw))) (hat w hw)
  have hk' : (Cond.classLink own ik cls).before args s' = true := vx_ot_at hW0 hvm.symm (hgood _ List.mem_cons_self) hk
  have hini' : (Cond.initialized cls).before args s' = true := vx_ot_at hW0 hvm.symm (hgood _ (List.mem_cons_of_mem _ List.mem_cons_self)) hini
  have hU' : vx_Zq Bundle.tN "UNASSIGNED_STACK" Bundle.steD A s' s'.heap := by rw [hhp]; exact vx_Zq.moved hW0.alike (hU.kept hS.2.1)
  have hN' : vx_Zq Bundle.tN "SUPPRESSED_SENTINEL" Bundle.listD A s' s'.heap := by rw [hhp]; exact vx_Zq.moved hW0.alike (hN.kept hS.2.1)
  have h : ∀ w ∈ Bundle.ownAtoms own ic cls names, w.before args s' = true := vx_own hat' (vx_isRefq hU'.1) (vx_isRefq hN'.1) hU'.2.word hN'.2.word
  have hown' : s'.vm.findClass own = some m.cls := by rw [hvm]; exact hown
  have hins : (Cond.instantiable cls 6).before args s' = true := h _ (by simp [Bundle.ownAtoms])
  obtain ⟨vm₁, cX, kX, hfX, hkX, -, -, X₁, st1⟩ := Y.newCold hexec (own := own) (C := cls) (index := ik) (n := 6) hown' hk' hins hini'
    (g := F0 m pc ls rest) rfl (by rw [hb]; exact d0) (Nat.le_refl _) (Nat.le_refl _)
  generalize hT1 : (T.setVm vm₁).pushCell { cls := cX, slots := kX.instanceTypes.map defaultValue, vm := .none } = T1 at X₁ st1
  have hcat : (Value.ref T.heap.size).category = 1 := rfl
  have hcellA : T1.heap[T.heap.size]? = some (freshCell cX kX) := by rw [← hT1]; exact State.heap_pushCell_size _ _
  have d3' : decode c.code (pc + 3) = .ok (.dup, 1) := by rw [hb]; exact d3
  have d4' : decode c.code (pc + 4) = .ok (.ldc is, 2) := by rw [hb]; exact d4
  have hstr' : vk_R own is text sa s' := vk_R.warm hW0 hstr
  obtain ⟨U, hsteps, hrun, hend, hW, hsame, ce, hce, hO⟩ := X₁.ctorThrowS hexec htr (own := own) (cls := cls) (names := names) (ic := ic) hown' hcls hnames h (fun x hx => nomatch hx) hfX hkX hcellA (by rw [hhp, hT]; exact Nat.le_refl _) (msg := .ref sa) rfl
    (g := { method := m, pc := pc + 6, locals := ls, stack := .ref sa :: .ref T.heap.size :: .ref T.heap.size :: rest, locked := none }) rfl hsize rfl rfl (rest := rest) rfl
    (by rw [hb]; exact d6) (by rw [hb]; exact d9) hout hRframes (by simp only [List.map_cons, List.sum_cons, hcat]; omega) hlocks
  obtain ⟨f1, f2⟩ := vx_frame hsame
  rw [hhp] at f1 f2
  have hWs : s.WarmedH U.vm := State.WarmedH.trans hW0 hW
  have hcl : s.vm.findClass cls = some ce.cls := by
    have h9 := hO.cls
    rw [hvm] at h9
    exact h9
  have hall : s.sameButNew ({ U with vm := s.vm } : State) locs mc ms := by
    subst hA
    obtain ⟨e1, e2⟩ := hsame
    rw [State.setFrames_setFrames] at e1
    have h2 : (T.setVm s.vm).sameButNew ({ U with vm := s.vm } : State) [] (0 + 1) (0 + 6) := ⟨e1, e2⟩
    have h3 := X.same.trans h2
    rw [List.append_nil] at h3
    exact h3.mono hc hs
  refine ⟨U, ?_, .threw T.heap.size, hrun, hend, Or.inr ⟨T.heap.size, rfl, cls, ce, locs, hx U hWs.alike f1 (fun q hq => f2 q hq (fun z hz => nomatch hz)), hce, hO.vm, hcl, hWs, hall, hf⟩⟩
  refine st1 _ ?_
  show Steps p.tables e below (T1.setTop { method := m, pc := pc + 3, locals := ls, stack := .ref T.heap.size :: rest, locked := none }) _
  jvm_step X₁.here [X₁.here.top, hexec, d3', Value.category]
  exact X₁.ldcString hexec (own := own) (text := text) (index := is) (a := sa) hown' hstr'.1 hstr'.2
    (g := { method := m, pc := pc + 4, locals := ls, stack := .ref T.heap.size :: .ref T.heap.size :: rest, locked := none }) rfl d4' _ hsteps
/-- 'throw new E("text")', the text by a wide index -/
theorem vx_throwSW {cc : ByteArray} {pc : Nat} (hexec : p.tables.exec = Jvm.exec) (hb : c.code = cc) (hl : l.stackTraces = false) {own cls text : String} {names : List String} {ik is ic mc ms sa : Nat} {A : Nat → Prop}
    (hown : s.vm.findClass own = some m.cls) (hcls : Bundle.fit cls = true) (hnames : ∀ n ∈ names, Bundle.fit n = true)
    (hk : (Cond.classLink own ik cls).before args s = true) (hini : (Cond.initialized cls).before args s = true) (hstr : vk_R own is text sa s) (hat : ∀ w ∈ vx_atS own ic cls names, w.before args s = true)
    (hgood : ∀ w ∈ Cond.classLink own ik cls :: Cond.initialized cls :: vx_atS own ic cls names, vx_ot w = true)
    (hU : vx_Zq Bundle.tN "UNASSIGNED_STACK" Bundle.steD A s s.heap) (hN : vx_Zq Bundle.tN "SUPPRESSED_SENTINEL" Bundle.listD A s s.heap) (hS : va_S A s.heap H locs) (hsize : ls.size = c.maxLocals)
    (d0 : decode cc pc = .ok (.new ik, 3)) (d3 : decode cc (pc + 3) = .ok (.dup, 1)) (d4 : decode cc (pc + 4) = .ok (.ldc_w is, 3)) (d7 : decode cc (pc + 7) = .ok (.invokespecial ic, 3)) (d10 : decode cc (pc + 10) = .ok (.athrow, 1))
    (hout : ∀ x ∈ c.exceptionTable.toList, covers x (pc + 10) = false)
    (hRframes : names.length + 3 < R.frames) (hRlocals : (rest.map fun v => v.category).sum + (13 * (names.length + 1) + 43) ≤ R.locals) (hRcells : cells + 1 ≤ R.cells) (hRslots : slots + 6 ≤ R.slots) (hlocks : meth.locks = false)
    (hx : ∀ t : State, s.vm.Alike t.vm → H.size ≤ t.heap.size → (∀ q : Nat, q < H.size → t.heap[q]? = H[q]?) → XC cls s t)
    (hf : ∀ z ∈ locs, free z.base) (hc : cells + 1 ≤ mc) (hs : slots + 6 ≤ ms) :
    W p l e R s m args below meth c H locs cells slots (vx_MQ below Qc XC args s mc ms free) (F0 m pc ls rest) := by
  intro T hT X
  have htr : e.platform.stackTraces = false := (show e.platform.stackTraces = l.stackTraces by rw [X.admits.platform]).trans hl
  have Y := vx_rebase X (R' := { frames := R.frames, locals := R.locals, cells := 1, slots := 6 }) (Nat.le_refl _) (Nat.le_refl _) hRcells hRslots
  obtain ⟨s', hA⟩ : ∃ z, z = (T.setVm s.vm).setFrames (.invoking m args :: below) := ⟨_, rfl⟩
  rw [← hA] at Y
  have hvm : s'.vm = s.vm := by rw [hA]; rfl
  have hhp : s'.heap = H := by rw [hA]; exact hT
  have hW0 : s.WarmedH s'.vm := by rw [hvm]; exact State.WarmedH.refl s
  have hat' : ∀ w ∈ vx_atS own ic cls names, w.before args s' = true := fun w hw => vx_ot_at hW0 hvm.symm (hgood w (List.mem_cons_of_mem _ (List.mem_cons_of_mem _ hw))) (hat w hw)
  have hk' : (Cond.classLink own ik cls).before args s' = true := vx_ot_at hW0 hvm.symm (hgood _ List.mem_cons_self) hk
  have hini' : (Cond.initialized cls).before args s' = true := vx_ot_at hW0 hvm.symm (hgood _ (List.mem_cons_of_mem _ List.mem_cons_self)) hini
  have hU' : vx_Zq Bundle.tN "UNASSIGNED_STACK" Bundle.steD A s' s'.heap := by rw [hhp]; exact vx_Zq.moved hW0.alike (hU.kept hS.2.1)
  have hN' : vx_Zq Bundle.tN "SUPPRESSED_SENTINEL" Bundle.listD A s' s'.heap := by rw [hhp]; exact vx_Zq.moved hW0.alike (hN.kept hS.2.1)
  have h : ∀ w ∈ Bundle.ownAtoms own ic cls names, w.before args s' = true := vx_own hat' (vx_isRefq hU'.1) (vx_isRefq hN'.1) hU'.2.word hN'.2.word
  have hown' : s'.vm.findClass own = some m.cls := by rw [hvm]; exact hown
  have hins : (Cond.instantiable cls 6).before args s' = true := h _ (by simp [Bundle.ownAtoms])
  obtain ⟨vm₁, cX, kX, hfX, hkX, -, -, X₁, st1⟩ := Y.newCold hexec (own := own) (C := cls) (index := ik) (n := 6) hown' hk' hins hini'
    (g := F0 m pc ls rest) rfl (by rw [hb]; exact d0) (Nat.le_refl _) (Nat.le_refl _)
  generalize hT1 : (T.setVm vm₁).pushCell { cls := cX, slots := kX.instanceTypes.map defaultValue, vm := .none } = T1 at X₁ st1
  have hcat : (Value.ref T.heap.size).category = 1 := rfl
  have hcellA : T1.heap[T.heap.size]? = some (freshCell cX kX) := by rw [← hT1]; exact State.heap_pushCell_size _ _
  have d3' : decode c.code (pc + 3) = .ok (.dup, 1) := by rw [hb]; exact d3
  have d4' : decode c.code (pc + 4) = .ok (.ldc_w is, 3) := by rw [hb]; exact d4
  have hstr' : vk_R own is text sa s' := vk_R.warm hW0 hstr
  obtain ⟨U, hsteps, hrun, hend, hW, hsame, ce, hce, hO⟩ := X₁.ctorThrowS hexec htr (own := own) (cls := cls) (names := names) (ic := ic) hown' hcls hnames h (fun x hx => nomatch hx) hfX hkX hcellA (by rw [hhp, hT]; exact Nat.le_refl _) (msg := .ref sa) rfl
    (g := { method := m, pc := pc + 7, locals := ls, stack := .ref sa :: .ref T.heap.size :: .ref T.heap.size :: rest, locked := none }) rfl hsize rfl rfl (rest := rest) rfl
    (by rw [hb]; exact d7) (by rw [hb]; exact d10) hout hRframes (by simp only [List.map_cons, List.sum_cons, hcat]; omega) hlocks
  obtain ⟨f1, f2⟩ := vx_frame hsame
  rw [hhp] at f1 f2
  have hWs : s.WarmedH U.vm := State.WarmedH.trans hW0 hW
  have hcl : s.vm.findClass cls = some ce.cls := by
    have h9 := hO.cls
    rw [hvm] at h9
    exact h9
  have hall : s.sameButNew ({ U with vm := s.vm } : State) locs mc ms := by
    subst hA
    obtain ⟨e1, e2⟩ := hsame
    rw [State.setFrames_setFrames] at e1
    have h2 : (T.setVm s.vm).sameButNew ({ U with vm := s.vm } : State) [] (0 + 1) (0 + 6) := ⟨e1, e2⟩
    have h3 := X.same.trans h2
    rw [List.append_nil] at h3
    exact h3.mono hc hs
  refine ⟨U, ?_, .threw T.heap.size, hrun, hend, Or.inr ⟨T.heap.size, rfl, cls, ce, locs, hx U hWs.alike f1 (fun q hq => f2 q hq (fun z hz => nomatch hz)), hce, hO.vm, hcl, hWs, hall, hf⟩⟩
  refine st1 _ ?_
  show Steps p.tables e below (T1.setTop { method := m, pc := pc + 3, locals := ls, stack := .ref T.heap.size :: rest, locked := none }) _
  jvm_step X₁.here [X₁.here.top, hexec, d3', Value.category]
  exact X₁.ldcStringW hexec (own := own) (text := text) (index := is) (a := sa) hown' hstr'.1 hstr'.2
    (g := { method := m, pc := pc + 4, locals := ls, stack := .ref T.heap.size :: .ref T.heap.size :: rest, locked := none }) rfl d4' _ hsteps
end Ends
section Bodies
variable {l : Launch}
theorem vx_ofW {y : MethodName} {ws ws' : List Cond} {rm : Room} {Pc : Array Value → State → Prop} {Qc : Array Value → State → Outcome → State → Prop} {XC : String → State → State → Prop} {mc ms : Nat} {free : Addr → Prop} {cc : ByteArray} {maxL : Nat} {ret : Option FieldType}
    (hy : plainName y.cls = true) (hw : ws = Cond.code y cc maxL ret :: ws')
    (body : ∀ p e s m args below meth c s₁, BodyLoose p l y (headSpec ws rm) cc maxL ret e s m args below meth c s₁ → c.maxLocals = maxL → (∀ x ∈ c.exceptionTable.toList, False) → Pc args s →
      W p l e (headSpec ws rm).room s m args below meth c s.heap [] 0 0 (vx_MQ below Qc XC args s mc ms free) (entryFrame m args maxL)) : vx_Met l y ws rm Pc Qc XC mc ms free := by
  refine MetFree.of_bodyS (code := cc) (maxLocals := maxL) (ret := ret) hy ?_ ?_
  · intro args s m h hn
    obtain ⟨meth, c, h1, h2, h3, h4, h5, h6, -, -⟩ := Cond.code_spec hn (atoms_spec (ws := ws) h _ (by rw [hw]; exact List.mem_cons_self))
    exact ⟨meth, c, h1, h2, h3, h4, h5, h6⟩
  · intro p e s m args below meth c s₁ B hml hP _
    have hh0 : s₁.heap = s.heap := by rw [B.state]; rfl
    have ht : ∀ x ∈ c.exceptionTable.toList, False := by
      obtain ⟨meth9, c9, h1, h2, -, -, -, -, h7, -⟩ := Cond.code_spec B.named (atoms_spec (ws := ws) B.pre _ (by rw [hw]; exact List.mem_cons_self))
      cases Option.some.inj (h1.symm.trans B.method)
      cases Option.some.inj (h2.symm.trans (Stand.of_body B).code)
      intro x hx
      rw [Array.isEmpty_iff.mp h7] at hx
      cases hx
    obtain ⟨t, a1, o, b1, b2, b3⟩ := body p e s m args below meth c s₁ B hml ht hP s₁ hh0 (Stand.of_body B)
    exact ⟨t, o, a1, b1, b2, b3⟩
/-- the table of a body with handlers -/
theorem vx_table {p : Program} {x y : MethodName} {S : Spec} {cc bytes : ByteArray} {maxL maxL' : Nat} {ret ret' : Option FieldType} {e : Env} {s s₁ : State} {m : MethodId} {args : Array Value} {below : List Frame} {meth : Method} {c : Code} {hh : List (Nat × Nat × Nat × Nat)}
    (B : BodyLoose p l y S cc maxL ret e s m args below meth c s₁) (h : (Cond.codeWith y bytes maxL' ret' hh).before args s = true) : c.exceptionTable.toList = tableOf hh := by
  obtain ⟨m9, meth9, c9, hn9, h1, h2, -, -, h6, -⟩ := Cond.codeWith_spec h
  cases Option.some.inj (hn9.symm.trans B.named)
  cases Option.some.inj (h1.symm.trans B.method)
  cases Option.some.inj (h2.symm.trans (Stand.of_body B).code)
  rw [← h6, table_eq]
end Bodies
end VXA
/-! ===== END ===== -/
/-! ===== BEGIN a static call of a method with an exception table ===== -/
section VXS
variable {p : Program} {l : Launch} {e : Env} {R : Room} {s : State} {m : MethodId} {args : Array Value} {below : List Frame} {meth : Method} {c : Code} {T : State} {H : Heap} {locs : List Loc} {cells slots : Nat}
abbrev vx_CSW (R : Room) (s : State) (args : Array Value) (own : String) (index : Nat) (y : MethodName) (bytes : ByteArray) (maxL : Nat) (ret : Option FieldType) (hh : List (Nat × Nat × Nat × Nat)) (ws : List Cond) (rm : Room) (mc ms n : Nat) : Prop :=
  (rm.cells = mc ∧ rm.slots = ms ∧ rm.frames + 1 ≤ R.frames ∧ 8 + (maxL + 11) + rm.locals ≤ R.locals ∧ (∀ w ∈ ws, ∀ (a' : Array Value) (U : State), s.WarmedH U.vm → w.before a' U = true) ∧ Cond.codeWith y bytes maxL ret hh ∈ ws) ∧
  (Cond.codeWith y bytes maxL ret hh).before args s = true ∧ (Cond.initialized y.cls).before args s = true ∧ (y.cls ≠ "java/lang/invoke/MethodHandle" ∧ y.cls ≠ "java/lang/invoke/VarHandle") ∧
  (∀ sig, parseMethodDescriptor y.desc = some sig → n = sig.parameters.length) ∧ (Cond.methodLink own index y).before args s = true ∧ (Cond.static y).before args s = true
theorem vx_cwSW {own : String} {index maxL mc ms : Nat} {y : MethodName} {bytes : ByteArray} {ret : Option FieldType} {hh : List (Nat × Nat × Nat × Nat)} {Ts ws ws' : List Cond} {rm : Room} (n : Nat) (ht : ∀ w ∈ Ts, w.before args s = true) (hT : GoodIn Ts (va_wsS own index y ws)) (hw : ws = Cond.codeWith y bytes maxL ret hh :: ws') (hrc : rm.cells = mc) (hrs : rm.slots = ms)
    (hd : y.cls ≠ "java/lang/invoke/MethodHandle" ∧ y.cls ≠ "java/lang/invoke/VarHandle" ∧ (parseMethodDescriptor y.desc).map (fun d => d.parameters.length) = some n) (hR : rm.frames + 1 ≤ R.frames ∧ 8 + (maxL + 11) + rm.locals ≤ R.locals) :
    vx_CSW R s args own index y bytes maxL ret hh ws rm mc ms n := by
  have ok : ∀ w ∈ va_wsS own index y ws, w.before args s = true := fun w h => ht w (hT w h).1
  have hG : GoodIn Ts ws := fun w h => hT w (by unfold va_wsS; exact List.mem_append_right _ h)
  have hc : Cond.codeWith y bytes maxL ret hh ∈ ws := by rw [hw]; exact List.mem_cons_self
  refine ⟨⟨hrc, hrs, hR.1, hR.2, pay_in ht hG, hc⟩, ht _ (hG _ hc).1, ok _ (by simp [va_wsS]), ⟨hd.1, hd.2.1⟩, fun sig h => ?_, ok _ (by simp [va_wsS]), ok _ (by simp [va_wsS])⟩
  have h2 := hd.2.2
  rw [h] at h2
  exact (Option.some.inj h2).symm
theorem vx_callSW (X : Stand p l e R s m args below meth c T locs cells slots) (hexec : p.tables.exec = Jvm.exec) {own : String} {index : Nat} {y : MethodName} {bytes : ByteArray} {maxL : Nat} {ret : Option FieldType} {hh : List (Nat × Nat × Nat × Nat)}
    (hown : s.vm.findClass own = some m.cls) (hlink : (Cond.methodLink own index y).before args s = true) (hstat : (Cond.static y).before args s = true) (hinit : (Cond.initialized y.cls).before args s = true)
    (hcode : (Cond.codeWith y bytes maxL ret hh).before args s = true) (hy : y.cls ≠ "java/lang/invoke/MethodHandle" ∧ y.cls ≠ "java/lang/invoke/VarHandle")
    {W9 : Nat} {Pre : Pt → Array Value → Prop} {Post : Pt → Array Value → Option Value → Pt → Prop} (hK : Back l R p e below s args y 3 W9 Pre Post)
    {g : JFrame} (hg : g.method = m) (hsize : g.locals.size = c.maxLocals) {argsL rest : List Value} (hlen : ∀ sig, parseMethodDescriptor y.desc = some sig → argsL.length = sig.parameters.length)
    (hstack : g.stack = argsL.reverse ++ rest) (hW : 2 * g.monitorRoom + (rest.map fun v => v.category).sum ≤ W9) (hdg : decode c.code g.pc = .ok (.invokestatic index, 3))
    (hpre : ∀ vm₁, s.WarmedH vm₁ → Pre ⟨T.setVm vm₁, locs, cells, slots⟩ argsL.toArray) :
    ∃ (v : Option Value) (vm₁ : Vm) (B : Pt), s.WarmedH vm₁ ∧ Stand p l e R s m args below meth c B.U B.locs B.cells B.slots ∧ Post ⟨T.setVm vm₁, locs, cells, slots⟩ argsL.toArray v B ∧
      ∀ target, Steps p.tables e below (B.U.setTop { g with pc := g.pc + 3, stack := v.toList ++ rest }) target → Steps p.tables e below (T.setTop g) target := by
  obtain ⟨mk, methM, cM, hnamed, hmethM, -, -, -, -, -, -, hsigM⟩ := Cond.codeWith_spec hcode
  have hstatic : methM.isStatic = true := Cond.static_spec hnamed hmethM hstat
  obtain ⟨kP, hkP, -⟩ := className_of_methodNamed hnamed
  have hinitP : kP.init = .initialized := Cond.initialized_spec (findClass_of_methodNamed hnamed) hkP hinit
  obtain ⟨vm₁, X₁, hstep₁⟩ := X.invokestatic hexec hown hlink hnamed hmethM hstatic hkP hinitP hy (g := g) hg (argsL := argsL) (rest := rest) (hlen _ hsigM) hstack hdg
  obtain ⟨v, B, X', hpost, hsteps⟩ := hK m meth c ⟨T.setVm vm₁, locs, cells, slots⟩ { g with stack := rest } (.invokestatic index) mk argsL.toArray X₁ hg hsize hdg hW (X₁.named hnamed) (hpre vm₁ X₁.warmed)
  exact ⟨v, vm₁, B, X₁.warmed, X', hpost, fun target h => hstep₁ _ fun acts => by rw [doInvoke_state]; exact hsteps.trans h⟩
theorem vx_runSW {y : MethodName} {bytes cc : ByteArray} {maxL nL mc ms n index : Nat} {ret : Option FieldType} {hh : List (Nat × Nat × Nat × Nat)} {ws : List Cond} {rm : Room} {Pc : Array Value → State → Prop} {Qc : Array Value → State → Outcome → State → Prop} {free : Addr → Prop} {Ts : List Cond} {own : String} {As rest : List Value} {g : JFrame}
    (S : CallFix p m c cc nL s args Ts own) (hM : Met l y ws rm Pc Qc mc ms free) (cw : vx_CSW R s args own index y bytes maxL ret hh ws rm mc ms n) (hp : PreS s H Pc As)
    (hg : g.method = m) (hn : As.length = n) (hsize : g.locals.size = nL) (hstack : g.stack = As.reverse ++ rest) (hW : 2 * g.monitorRoom + (rest.map fun v => v.category).sum ≤ 8) (hdg : decode cc g.pc = .ok (.invokestatic index, 3)) (hf : cells + mc ≤ R.cells ∧ slots + ms ≤ R.slots) :
    va_Run p l e R s m args below meth c H locs cells slots mc ms g rest (Qc As.toArray) (free) := by
  obtain ⟨⟨hrc, hrs, hfr, hlo, hws, hcw⟩, hcode, hini, hy, hlen, hl, hstt⟩ := cw
  have hK : Back l R p e below s args y 3 8 (PreOf R mc ms Pc) (PostOf Qc mc ms free) := va_backW (hh := hh) (bytes := bytes) (maxL := maxL) (ret := ret) hM hp.1 hrc hrs hfr hlo hws hcw (fun a' U hW => word_at hW (Or.inl (by first | rfl | simp [Cond.onTables, Cond.keeps, Cond.steady])) hini)
  obtain ⟨hx, hb, hml, ho, -⟩ := S
  intro T hT X
  obtain ⟨v, vm₁, ⟨U', l2, c2, s2⟩, hW₁, X', ⟨g', mk, t, L, e1, e2, hq, h1, hL, h2, h3⟩, st⟩ := vx_callSW X hx (hh := hh) (bytes := bytes) (maxL := maxL) (ret := ret) ho hl hstt hini hcode hy hK hg (hsize.trans hml.symm) (argsL := As) (rest := rest) (fun sig h => hn.trans (hlen sig h)) hstack hW (by rw [hb]; exact hdg)
    (fun vm₁ hW₁ => ⟨hf.1, hf.2, hp.2 (T.setVm vm₁) hT hW₁⟩)
  dsimp only [Pt.U, Pt.locs, Pt.cells, Pt.slots] at X' e1 e2 h1 h2 h3 st
  subst h1; subst h2; subst h3
  exact ⟨v, (T.setVm vm₁).calling g' mk As.toArray, t, U', L, hT, X', hL, e1, e2, hq, st⟩
/-- not caught here, past rows that name other classes: it goes on to the caller -/
theorem vx_outP {p : Program} {l : Launch} {e : Env} {R : Room} {s : State} {m : MethodId} {args : Array Value} {below : List Frame} {meth : Method} {c : Code} {H : Heap} {locs : List Loc} {cells slots : Nat} {free : Addr → Prop} {ls : Array Slot} {rest : List Value} {Qc : Array Value → State → Outcome → State → Prop} {XC : String → State → State → Prop}
    {pc : Nat} {own E : String} {ce : Cell} {q : Addr} {mc ms : Nat} (hown : s.vm.findClass own = some m.cls) (hlocks : meth.locks = false)
    (hpass : ∀ z ∈ c.exceptionTable.toList, covers z pc = false ∨ (z.catchType ≠ 0 ∧ ∃ nm : String, (Cond.classLink own z.catchType nm).before args s = true ∧ va_Nc E nm s)) (hcell : H[q]? = some ce) (hv : ce.vm = .none) (hcl : s.vm.findClass E = some ce.cls)
    (hx : ∀ t : State, t.heap = H → s.vm.Alike t.vm → XC E s t) (hf : ∀ z ∈ locs, free z.base) (hc : cells ≤ mc) (hs : slots ≤ ms) :
    vx_W p l e R s m args below meth c H locs cells slots (vx_MQ below Qc XC args s mc ms free) (F0 m pc ls rest) q := by
  intro T hT X
  have hpl : e.platform.magicAccessors = ({} : Platform).magicAccessors := by rw [X.admits.platform]
  obtain ⟨vm', hW', X', st⟩ := X.outThrough hlocks q (g := F0 m pc ls rest) rfl rfl rfl (cell := ce) (by rw [hT]; exact hcell) (by rw [hv]; rfl)
    (by obtain ⟨k9, h9, -⟩ := Vm.findClass_spec hcl; exact ⟨k9, h9⟩) (fun z hz => by
      rcases hpass z hz with h | ⟨hz0, nm, hl1, hn1⟩
      · exact Or.inl h
      · obtain ⟨c6, hc6, hcl6⟩ := Cond.classLink_spec hown hl1 e.platform hpl
        obtain ⟨a8, b8, h1, h2, h3⟩ := hn1
        cases Option.some.inj (h1.symm.trans hcl)
        cases Option.some.inj (h2.symm.trans hc6)
        exact Or.inr ⟨hz0, _, hcl6, h3⟩)
  obtain ⟨g₀, hfr⟩ := X'.frames_eq
  have hcell9 : ((T.setVm vm').setFrames (.throwing q :: below)).heap[q]? = some ce := by
    show T.heap[q]? = some ce
    rw [hT]; exact hcell
  have hend : Ended ((T.setVm vm').setFrames (.throwing q :: below)) below (.threw q) := State.frames_setFrames _ (State.cur_lt_of_frames hfr)
  refine ⟨(T.setVm vm').setFrames (.throwing q :: below), ?_, .threw q, X'.here.running, hend, Or.inr ⟨q, rfl, E, ce, locs, hx _ hT (X'.ends _).1.alike, hcell9, hv, hcl, (X'.ends _).1, (X'.ends _).2.mono hc hs, hf⟩⟩
  rw [X.pushThrowing_eq]
  exact st
/-- a thing of a world lies in the heap -/
theorem vx_lt {D : va_G} {cl : List vw_C} {ws : va_W} {H1 : Heap} (h : va_P D cl ws H1) {k : Nat} {q : Nat × va_E} (hk : ws[k]? = some q) : q.1 < H1.size := (h k q hk).lt
end VXS
/-! ===== END ===== -/
/-! ===== BEGIN methods with a table of their own: called by a name, returning or throwing ===== -/
section VXH
/-! vx_backW, vx_callVX, vx_callSX, vx_callVW, vx_runVW, vx_runVX, vx_runSX, vx_ofWH follow the same proofs as their sisters above (Free/Laws.lean, Shelf42/LK1.lean); vx_outP calls Shelf42/NT130.lean (outThrough). -/
section
variable {l : Launch} {R : Room} {p : Program} {e : Env} {below : List Frame} {s : State} {sargs : Array Value} {y : MethodName} {len W9 : Nat}
theorem vx_backW {ws : List Cond} {rm : Room} {Pc : Array Value → State → Prop} {Qc : Array Value → State → Outcome → State → Prop} {XC : String → State → State → Prop} {mc ms : Nat} {free : Addr → Prop} {bytes : ByteArray} {maxL : Nat} {ret : Option FieldType} {hh : List (Nat × Nat × Nat × Nat)}
    (hM : vx_Met l y ws rm Pc Qc XC mc ms free) (hblind : FrameBlind Pc) (hrc : rm.cells = mc) (hrs : rm.slots = ms)
    (hframes : rm.frames + 1 ≤ R.frames) (hlocals : W9 + (maxL + 11) + rm.locals ≤ R.locals)
    (hws : ∀ w ∈ ws, ∀ a' U, s.WarmedH U.vm → w.before a' U = true) (hcode : Cond.codeWith y bytes maxL ret hh ∈ ws) (hinit : ∀ a' U, s.WarmedH U.vm → (Cond.initialized y.cls).before a' U = true) :
    vx_Back l R p e below s sargs y len W9 (PreOf R mc ms Pc) (PostOf Qc mc ms free) (vx_Post XC mc ms free) := by
  intro m meth c A g ig mk a X hg hsize hdg hW hn hp
  have h1 : (headSpec ws rm).pre.before a A.U = true := atoms_intro fun w hw => hws w hw _ _ X.warmed
  have h2 : (Cond.codeWith y bytes maxL ret hh).before a A.U = true := hws _ hcode _ _ X.warmed
  have h3 : (Cond.initialized y.cls).before a A.U = true := hinit _ _ X.warmed
  have h4 : A.cells + (headSpec ws rm).room.cells ≤ R.cells := by rw [show (headSpec ws rm).room.cells = mc from hrc]; exact hp.1
  have h5 : A.slots + (headSpec ws rm).room.slots ≤ R.slots := by rw [show (headSpec ws rm).room.slots = ms from hrs]; exact hp.2.1
  have hPc : Pc a (A.U.calling g mk a) := hblind _ _ _ _ hp.2.2
  obtain ⟨U, Ls, c0, s0⟩ := A
  dsimp only [Pt.U, Pt.locs, Pt.cells, Pt.slots] at h1 h2 h3 h4 h5 X hn hPc ⊢
  obtain ⟨m9, methY, cY, hn9, hmY, hcY, -, hlY, -⟩ := Cond.codeWith_spec h2
  cases Option.some.inj (hn9.symm.trans hn)
  obtain ⟨kY, hkY, -⟩ := className_of_methodNamed hn
  have hinitY : kY.init = .initialized := Cond.initialized_spec (findClass_of_methodNamed hn) hkY h3
  have h : At U g.method c below := by rw [hg]; exact X.here
  have hlocals9 : W9 + (maxL + 11) + (headSpec ws rm).room.locals ≤ R.locals := hlocals
  have happ : (headSpec ws rm).appliesLoose y e.platform (U.calling g mk a) = true :=
    Spec.appliesLoose_calling (g := g) h hdg hn hkY hinitY
      (X.room_calling (g := g) (R' := (headSpec ws rm).room) hsize hmY hcY hframes (by rw [hlY]; omega) h4 h5) h1
  obtain ⟨mid, hmid⟩ := h.above
  have hfr : (U.setTop g).frames = (.java g :: mid) ++ below := by rw [State.frames_setTop' g h.top, hmid]; rfl
  obtain ⟨o, s₂, hsteps, -, hend, hq⟩ := Steps.callFree hM p X.admits X.cas X.clock (acts := []) hfr happ hPc trivial
  have hq' : vx_Q Qc XC mc ms free a (U.calling g mk a) o s₂ := hq
  rw [State.frames_setTop' g h.top] at hend
  obtain ⟨g₀, hg0⟩ := Option.isSome_iff_exists.mp h.top
  obtain ⟨r, hr⟩ := State.topJava?_eq_some.mp hg0
  have hr' : (({ U with heap := s₂.heap, slotsUsed := s₂.slotsUsed } : State).setVm s₂.vm).frames = .java g₀ :: r := hr
  rcases hq' with ⟨hqc, L, hfe, hL⟩ | ⟨q, rfl, E, ce, L, hx, hce, hcv, hcl, hW₂, hsm, hL⟩
  · obtain ⟨⟨v, rfl⟩, hW₂, e2, q2, q3, q4, q5, q6⟩ := id hfe
    have e3 : s₂ = ({ (U.calling g mk a).setFrames s₂.frames with heap := s₂.heap, slotsUsed := s₂.slotsUsed } : State).setVm s₂.vm := by
      have : s₂ = ({ s₂ with vm := (U.calling g mk a).vm } : State).setVm s₂.vm := rfl
      rw [e2] at this
      exact this
    obtain ⟨c₂, i₂, len₂, hc₂, hd₂, hf₂⟩ := hend
    have hW' : U.WarmedH s₂.vm := hW₂
    have hcc : c₂ = c := by
      have h1 : s₂.code? g.method = U.code? g.method := by
        rw [State.code?_eq, State.code?_eq, hW'.alike.method?]
      exact Option.some.inj (hc₂.symm.trans (h1.trans h.code))
    subst hcc
    have hlen : len₂ = len := by rw [hdg] at hd₂; cases hd₂; rfl
    subst hlen
    have hs₂ : s₂ = (({ U with heap := s₂.heap, slotsUsed := s₂.slotsUsed } : State).setVm s₂.vm).setTop { g with pc := g.pc + len₂, stack := v.toList ++ g.stack } := by
      refine e3.trans ?_
      rw [hf₂, State.calling_eq h.top, State.setFrames_setFrames, State.setTop_of_frames _ hr', hr]
      rfl
    have hsame : U.sameButNew ({ U with heap := s₂.heap, slotsUsed := s₂.slotsUsed } : State) L mc ms := by
      refine ⟨?_, q2, q3, q4, q5, q6⟩
      obtain ⟨t, ht, -⟩ := State.frames_cons hr
      show ({ U with heap := s₂.heap, slotsUsed := s₂.slotsUsed } : State) = { U.setFrames U.frames with heap := s₂.heap, slotsUsed := s₂.slotsUsed }
      rw [State.setFrames_self ht]
    subst hg
    refine Or.inl ⟨v, ⟨(({ U with heap := s₂.heap, slotsUsed := s₂.slotsUsed } : State).setVm s₂.vm), Ls ++ L, c0 + mc, s0 + ms⟩,
      ⟨X.admits, X.cas, X.clock, X.frames, X.room, X.hears, X.method, X.code, (X.here.setHeapUsed s₂.heap s₂.slotsUsed).setVm hW'.alike, X.tail, State.WarmedH.trans X.warmed hW', X.limits, X.bytes, X.same.trans (hsame.setVm s.vm)⟩,
      ⟨g, mk, s₂, L, rfl, rfl, hqc, rfl, hL, rfl, rfl⟩, ?_⟩
    show Steps p.tables e below _ ((({ U with heap := s₂.heap, slotsUsed := s₂.slotsUsed } : State).setVm s₂.vm).setTop { g with pc := g.pc + len₂, stack := v.toList ++ g.stack })
    rw [← hs₂]
    exact hsteps
  · obtain ⟨e2, q2, q3, q4, q5, q6⟩ := id hsm
    have e3 : s₂ = ({ (U.calling g mk a).setFrames s₂.frames with heap := s₂.heap, slotsUsed := s₂.slotsUsed } : State).setVm s₂.vm := by
      have : s₂ = ({ s₂ with vm := (U.calling g mk a).vm } : State).setVm s₂.vm := rfl
      rw [e2] at this
      exact this
    have hf₂ : s₂.frames = .throwing q :: .java g :: U.frames.tail := hend
    have hW' : U.WarmedH s₂.vm := hW₂
    have hs₂ : s₂ = ((({ U with heap := s₂.heap, slotsUsed := s₂.slotsUsed } : State).setVm s₂.vm).setTop g).pushFrame (.throwing q) := by
      refine e3.trans ?_
      rw [hf₂, State.calling_eq h.top, State.setFrames_setFrames, State.pushFrame, State.frames_setTop _ hr', State.setTop_of_frames _ hr', State.setFrames_setFrames, hr]
      rfl
    have hsame : U.sameButNew ({ U with heap := s₂.heap, slotsUsed := s₂.slotsUsed } : State) L mc ms := by
      refine ⟨?_, q2, q3, q4, q5, q6⟩
      obtain ⟨t, ht, -⟩ := State.frames_cons hr
      show ({ U with heap := s₂.heap, slotsUsed := s₂.slotsUsed } : State) = { U.setFrames U.frames with heap := s₂.heap, slotsUsed := s₂.slotsUsed }
      rw [State.setFrames_self ht]
    subst hg
    refine Or.inr ⟨q, ⟨(({ U with heap := s₂.heap, slotsUsed := s₂.slotsUsed } : State).setVm s₂.vm), Ls ++ L, c0 + mc, s0 + ms⟩,
      ⟨X.admits, X.cas, X.clock, X.frames, X.room, X.hears, X.method, X.code, (X.here.setHeapUsed s₂.heap s₂.slotsUsed).setVm hW'.alike, X.tail, State.WarmedH.trans X.warmed hW', X.limits, X.bytes, X.same.trans (hsame.setVm s.vm)⟩,
      ⟨g, mk, s₂, L, E, ce, rfl, rfl, hx, hce, hcv, hcl, rfl, hL, rfl, rfl⟩, ?_⟩
    show Steps p.tables e below _ (((({ U with heap := s₂.heap, slotsUsed := s₂.slotsUsed } : State).setVm s₂.vm).setTop g).pushFrame (.throwing q))
    rw [← hs₂]
    exact hsteps
end
variable {p : Program} {l : Launch} {e : Env} {R : Room} {s : State} {m : MethodId} {args : Array Value} {below : List Frame} {meth : Method} {c : Code} {T : State} {H : Heap} {locs : List Loc} {cells slots : Nat}
theorem vx_callVX (X : Stand p l e R s m args below meth c T locs cells slots) (hexec : p.tables.exec = Jvm.exec) {own C : String} {index : Nat} {y : MethodName} {bytes : ByteArray} {maxL : Nat} {ret : Option FieldType} {hh : List (Nat × Nat × Nat × Nat)}
    (hown : s.vm.findClass own = some m.cls) (hlink : (Cond.methodLink own index y).before args s = true) (hinst : (Cond.instanceMethod y).before args s = true) (hsel : (Cond.selects C y y).before args s = true)
    (hcode : (Cond.codeWith y bytes maxL ret hh).before args s = true) (hy : y.cls ≠ "java/lang/invoke/MethodHandle" ∧ y.cls ≠ "java/lang/invoke/VarHandle")
    {W9 : Nat} {Pre : Pt → Array Value → Prop} {Post : Pt → Array Value → Option Value → Pt → Prop} {PostX : Pt → Array Value → Addr → Pt → Prop} (hK : vx_Back l R p e below s args y 3 W9 Pre Post PostX)
    {b : Addr} {cellB : Cell} (hcell : T.heap[b]? = some cellB) (hobj : cellB.vm.isStatics = false) (hcls : s.vm.findClass C = some cellB.cls)
    {g : JFrame} (hg : g.method = m) (hsize : g.locals.size = c.maxLocals) {argsL rest : List Value} (hlen : ∀ sig, parseMethodDescriptor y.desc = some sig → argsL.length = sig.parameters.length)
    (hstack : g.stack = argsL.reverse ++ .ref b :: rest) (hW : 2 * g.monitorRoom + (rest.map fun v => v.category).sum ≤ W9) (hdg : decode c.code g.pc = .ok (.invokevirtual index, 3))
    (hpre : ∀ vm₁, s.WarmedH vm₁ → Pre ⟨T.setVm vm₁, locs, cells, slots⟩ (Value.ref b :: argsL).toArray) :
    (∃ (v : Option Value) (vm₁ : Vm) (B : Pt), s.WarmedH vm₁ ∧ Stand p l e R s m args below meth c B.U B.locs B.cells B.slots ∧ Post ⟨T.setVm vm₁, locs, cells, slots⟩ (Value.ref b :: argsL).toArray v B ∧
      ∀ target, Steps p.tables e below (B.U.setTop { g with pc := g.pc + 3, stack := v.toList ++ rest }) target → Steps p.tables e below (T.setTop g) target) ∨
    (∃ (q : Addr) (vm₁ : Vm) (B : Pt), s.WarmedH vm₁ ∧ Stand p l e R s m args below meth c B.U B.locs B.cells B.slots ∧ PostX ⟨T.setVm vm₁, locs, cells, slots⟩ (Value.ref b :: argsL).toArray q B ∧
      Steps p.tables e below (T.setTop g) ((B.U.setTop { g with stack := rest }).pushFrame (.throwing q))) := by
  obtain ⟨mk, methM, hnamed, hmethM, hstM, habM⟩ := Cond.instanceMethod_spec hinst
  obtain ⟨m8, methM', cM, hn8, hmethM', -, -, -, -, -, -, hsigM⟩ := Cond.codeWith_spec hcode
  cases Option.some.inj (hn8.symm.trans hnamed)
  cases hmethM.symm.trans hmethM'
  obtain ⟨c2, r2, m2, q1, q2, q3, q4, kP, hkP, hkPi⟩ := Cond.selects_spec hsel
  cases hcls.symm.trans q1
  cases (State.methodFound?_of_named hnamed hy).symm.trans q2
  cases hnamed.symm.trans q3
  have hselP : selectMethod e.platform s.vm cellB.cls mk = .method mk := by rw [Launch.admits_selectMethod X.admits]; exact q4
  obtain ⟨vm₁, X₁, hstep₁⟩ := X.invokevirtual hexec hown hlink hnamed hmethM hstM hkP hkPi hy (a := b) (cell := cellB) hcell
    (fun z h => by rw [h] at hobj; cases hobj) hselP hmethM habM hkP hkPi (g := g) hg (argsL := argsL) (rest := rest) (hlen _ hsigM) hstack hdg
  rcases hK m meth c ⟨T.setVm vm₁, locs, cells, slots⟩ { g with stack := rest } (.invokevirtual index) mk (Value.ref b :: argsL).toArray X₁ hg hsize hdg hW (X₁.named hnamed) (hpre vm₁ X₁.warmed) with ⟨v, B, X', hpost, hsteps⟩ | ⟨q, B, X', hpost, hsteps⟩
  · exact Or.inl ⟨v, vm₁, B, X₁.warmed, X', hpost, fun target h => hstep₁ _ fun acts => by rw [doInvoke_state]; exact hsteps.trans h⟩
  · exact Or.inr ⟨q, vm₁, B, X₁.warmed, X', hpost, hstep₁ _ fun acts => by rw [doInvoke_state]; exact hsteps⟩
theorem vx_callSX (X : Stand p l e R s m args below meth c T locs cells slots) (hexec : p.tables.exec = Jvm.exec) {own : String} {index : Nat} {y : MethodName} {bytes : ByteArray} {maxL : Nat} {ret : Option FieldType} {hh : List (Nat × Nat × Nat × Nat)}
    (hown : s.vm.findClass own = some m.cls) (hlink : (Cond.methodLink own index y).before args s = true) (hstat : (Cond.static y).before args s = true) (hinit : (Cond.initialized y.cls).before args s = true)
    (hcode : (Cond.codeWith y bytes maxL ret hh).before args s = true) (hy : y.cls ≠ "java/lang/invoke/MethodHandle" ∧ y.cls ≠ "java/lang/invoke/VarHandle")
    {W9 : Nat} {Pre : Pt → Array Value → Prop} {Post : Pt → Array Value → Option Value → Pt → Prop} {PostX : Pt → Array Value → Addr → Pt → Prop} (hK : vx_Back l R p e below s args y 3 W9 Pre Post PostX)
    {g : JFrame} (hg : g.method = m) (hsize : g.locals.size = c.maxLocals) {argsL rest : List Value} (hlen : ∀ sig, parseMethodDescriptor y.desc = some sig → argsL.length = sig.parameters.length)
    (hstack : g.stack = argsL.reverse ++ rest) (hW : 2 * g.monitorRoom + (rest.map fun v => v.category).sum ≤ W9) (hdg : decode c.code g.pc = .ok (.invokestatic index, 3))
    (hpre : ∀ vm₁, s.WarmedH vm₁ → Pre ⟨T.setVm vm₁, locs, cells, slots⟩ argsL.toArray) :
    (∃ (v : Option Value) (vm₁ : Vm) (B : Pt), s.WarmedH vm₁ ∧ Stand p l e R s m args below meth c B.U B.locs B.cells B.slots ∧ Post ⟨T.setVm vm₁, locs, cells, slots⟩ argsL.toArray v B ∧
      ∀ target, Steps p.tables e below (B.U.setTop { g with pc := g.pc + 3, stack := v.toList ++ rest }) target → Steps p.tables e below (T.setTop g) target) ∨
    (∃ (q : Addr) (vm₁ : Vm) (B : Pt), s.WarmedH vm₁ ∧ Stand p l e R s m args below meth c B.U B.locs B.cells B.slots ∧ PostX ⟨T.setVm vm₁, locs, cells, slots⟩ argsL.toArray q B ∧
      Steps p.tables e below (T.setTop g) ((B.U.setTop { g with stack := rest }).pushFrame (.throwing q))) := by
  obtain ⟨mk, methM, cM, hnamed, hmethM, -, -, -, -, -, -, hsigM⟩ := Cond.codeWith_spec hcode
  have hstatic : methM.isStatic = true := Cond.static_spec hnamed hmethM hstat
  obtain ⟨kP, hkP, -⟩ := className_of_methodNamed hnamed
  have hinitP : kP.init = .initialized := Cond.initialized_spec (findClass_of_methodNamed hnamed) hkP hinit
  obtain ⟨vm₁, X₁, hstep₁⟩ := X.invokestatic hexec hown hlink hnamed hmethM hstatic hkP hinitP hy (g := g) hg (argsL := argsL) (rest := rest) (hlen _ hsigM) hstack hdg
  rcases hK m meth c ⟨T.setVm vm₁, locs, cells, slots⟩ { g with stack := rest } (.invokestatic index) mk argsL.toArray X₁ hg hsize hdg hW (X₁.named hnamed) (hpre vm₁ X₁.warmed) with ⟨v, B, X', hpost, hsteps⟩ | ⟨q, B, X', hpost, hsteps⟩
  · exact Or.inl ⟨v, vm₁, B, X₁.warmed, X', hpost, fun target h => hstep₁ _ fun acts => by rw [doInvoke_state]; exact hsteps.trans h⟩
  · exact Or.inr ⟨q, vm₁, B, X₁.warmed, X', hpost, hstep₁ _ fun acts => by rw [doInvoke_state]; exact hsteps⟩
theorem vx_callVW (X : Stand p l e R s m args below meth c T locs cells slots) (hexec : p.tables.exec = Jvm.exec) {own C : String} {index : Nat} {y : MethodName} {bytes : ByteArray} {maxL : Nat} {ret : Option FieldType} {hh : List (Nat × Nat × Nat × Nat)}
    (hown : s.vm.findClass own = some m.cls) (hlink : (Cond.methodLink own index y).before args s = true) (hinst : (Cond.instanceMethod y).before args s = true) (hsel : (Cond.selects C y y).before args s = true)
    (hcode : (Cond.codeWith y bytes maxL ret hh).before args s = true) (hy : y.cls ≠ "java/lang/invoke/MethodHandle" ∧ y.cls ≠ "java/lang/invoke/VarHandle")
    {W9 : Nat} {Pre : Pt → Array Value → Prop} {Post : Pt → Array Value → Option Value → Pt → Prop} (hK : Back l R p e below s args y 3 W9 Pre Post)
    {b : Addr} {cellB : Cell} (hcell : T.heap[b]? = some cellB) (hobj : cellB.vm.isStatics = false) (hcls : s.vm.findClass C = some cellB.cls)
    {g : JFrame} (hg : g.method = m) (hsize : g.locals.size = c.maxLocals) {argsL rest : List Value} (hlen : ∀ sig, parseMethodDescriptor y.desc = some sig → argsL.length = sig.parameters.length)
    (hstack : g.stack = argsL.reverse ++ .ref b :: rest) (hW : 2 * g.monitorRoom + (rest.map fun v => v.category).sum ≤ W9) (hdg : decode c.code g.pc = .ok (.invokevirtual index, 3))
    (hpre : ∀ vm₁, s.WarmedH vm₁ → Pre ⟨T.setVm vm₁, locs, cells, slots⟩ (Value.ref b :: argsL).toArray) :
    ∃ (v : Option Value) (vm₁ : Vm) (B : Pt), s.WarmedH vm₁ ∧ Stand p l e R s m args below meth c B.U B.locs B.cells B.slots ∧ Post ⟨T.setVm vm₁, locs, cells, slots⟩ (Value.ref b :: argsL).toArray v B ∧
      ∀ target, Steps p.tables e below (B.U.setTop { g with pc := g.pc + 3, stack := v.toList ++ rest }) target → Steps p.tables e below (T.setTop g) target := by
  obtain ⟨mk, methM, hnamed, hmethM, hstM, habM⟩ := Cond.instanceMethod_spec hinst
  obtain ⟨m8, methM', cM, hn8, hmethM', -, -, -, -, -, -, hsigM⟩ := Cond.codeWith_spec hcode
  cases Option.some.inj (hn8.symm.trans hnamed)
  cases hmethM.symm.trans hmethM'
  obtain ⟨c2, r2, m2, q1, q2, q3, q4, kP, hkP, hkPi⟩ := Cond.selects_spec hsel
  cases hcls.symm.trans q1
  cases (State.methodFound?_of_named hnamed hy).symm.trans q2
  cases hnamed.symm.trans q3
  have hselP : selectMethod e.platform s.vm cellB.cls mk = .method mk := by rw [Launch.admits_selectMethod X.admits]; exact q4
  obtain ⟨vm₁, X₁, hstep₁⟩ := X.invokevirtual hexec hown hlink hnamed hmethM hstM hkP hkPi hy (a := b) (cell := cellB) hcell
    (fun z h => by rw [h] at hobj; cases hobj) hselP hmethM habM hkP hkPi (g := g) hg (argsL := argsL) (rest := rest) (hlen _ hsigM) hstack hdg
  obtain ⟨v, B, X', hpost, hsteps⟩ := hK m meth c ⟨T.setVm vm₁, locs, cells, slots⟩ { g with stack := rest } (.invokevirtual index) mk (Value.ref b :: argsL).toArray X₁ hg hsize hdg hW (X₁.named hnamed) (hpre vm₁ X₁.warmed)
  exact ⟨v, vm₁, B, X₁.warmed, X', hpost, fun target h => hstep₁ _ fun acts => by rw [doInvoke_state]; exact hsteps.trans h⟩
abbrev vx_CVW (R : Room) (s : State) (args : Array Value) (own C : String) (index : Nat) (y : MethodName) (bytes : ByteArray) (maxL : Nat) (ret : Option FieldType) (hh : List (Nat × Nat × Nat × Nat)) (ws : List Cond) (rm : Room) (mc ms n : Nat) : Prop :=
  (rm.cells = mc ∧ rm.slots = ms ∧ rm.frames + 1 ≤ R.frames ∧ 8 + (maxL + 11) + rm.locals ≤ R.locals ∧ (∀ w ∈ ws, ∀ (a' : Array Value) (U : State), s.WarmedH U.vm → w.before a' U = true) ∧ Cond.codeWith y bytes maxL ret hh ∈ ws) ∧
  (Cond.codeWith y bytes maxL ret hh).before args s = true ∧ (Cond.initialized y.cls).before args s = true ∧ (y.cls ≠ "java/lang/invoke/MethodHandle" ∧ y.cls ≠ "java/lang/invoke/VarHandle") ∧
  (∀ sig, parseMethodDescriptor y.desc = some sig → n = sig.parameters.length) ∧ (Cond.methodLink own index y).before args s = true ∧ (Cond.instanceMethod y).before args s = true ∧ (Cond.selects C y y).before args s = true
theorem vx_cwVW {own C : String} {index maxL mc ms : Nat} {y : MethodName} {bytes : ByteArray} {ret : Option FieldType} {hh : List (Nat × Nat × Nat × Nat)} {Ts ws ws' : List Cond} {rm : Room} (n : Nat) (ht : ∀ w ∈ Ts, w.before args s = true) (hT : GoodIn Ts (wsV own index C y ws)) (hw : ws = Cond.codeWith y bytes maxL ret hh :: ws') (hrc : rm.cells = mc) (hrs : rm.slots = ms)
    (hd : y.cls = C ∧ y.cls ≠ "java/lang/invoke/MethodHandle" ∧ y.cls ≠ "java/lang/invoke/VarHandle" ∧ (parseMethodDescriptor y.desc).map (fun d => d.parameters.length) = some n) (hR : rm.frames + 1 ≤ R.frames ∧ 8 + (maxL + 11) + rm.locals ≤ R.locals) :
    vx_CVW R s args own C index y bytes maxL ret hh ws rm mc ms n := by
  obtain ⟨hC, hd⟩ := hd
  subst hC
  have ok : ∀ w ∈ wsV own index y.cls y ws, w.before args s = true := fun w h => ht w (hT w h).1
  have hG : GoodIn Ts ws := fun w h => hT w (by unfold wsV; exact List.mem_append_right _ h)
  have hc : Cond.codeWith y bytes maxL ret hh ∈ ws := by rw [hw]; exact List.mem_cons_self
  refine ⟨⟨hrc, hrs, hR.1, hR.2, pay_in ht hG, hc⟩, ht _ (hG _ hc).1, ok _ (by simp [wsV]), ⟨hd.1, hd.2.1⟩, fun sig h => ?_, ok _ (by simp [wsV]), ok _ (by simp [wsV]), ok _ (by simp [wsV])⟩
  have h2 := hd.2.2
  rw [h] at h2
  exact (Option.some.inj h2).symm
theorem vx_runVW {y : MethodName} {bytes cc : ByteArray} {maxL nL mc ms n index : Nat} {ret : Option FieldType} {hh : List (Nat × Nat × Nat × Nat)} {ws : List Cond} {rm : Room} {Pc : Array Value → State → Prop} {Qc : Array Value → State → Outcome → State → Prop} {free : Addr → Prop} {Ts : List Cond} {own C : String} {b : Addr} {As rest : List Value} {g : JFrame}
    (S : CallFix p m c cc nL s args Ts own) (hM : Met l y ws rm Pc Qc mc ms free) (cw : vx_CVW R s args own C index y bytes maxL ret hh ws rm mc ms n) (hp : PreV s H C b Pc As)
    (hg : g.method = m) (hn : As.length = n) (hsize : g.locals.size = nL) (hstack : g.stack = As.reverse ++ .ref b :: rest) (hW : 2 * g.monitorRoom + (rest.map fun v => v.category).sum ≤ 8) (hdg : decode cc g.pc = .ok (.invokevirtual index, 3)) (hf : cells + mc ≤ R.cells ∧ slots + ms ≤ R.slots) :
    va_Run p l e R s m args below meth c H locs cells slots mc ms g rest (Qc (Value.ref b :: As).toArray) free := by
  obtain ⟨⟨hrc, hrs, hfr, hlo, hws, hcw⟩, hcode, hini, hy, hlen, hl, hin, hse⟩ := cw
  have hK : Back l R p e below s args y 3 8 (PreOf R mc ms Pc) (PostOf Qc mc ms free) := va_backW (hh := hh) (bytes := bytes) (maxL := maxL) (ret := ret) hM hp.1 hrc hrs hfr hlo hws hcw (fun a' U hW => word_at hW (Or.inl (by first | rfl | simp [Cond.onTables, Cond.keeps, Cond.steady])) hini)
  obtain ⟨hx, hb, hml, ho, -⟩ := S
  obtain ⟨-, ⟨cellB, hcB, hoB, hclB⟩, hPc⟩ := hp
  intro T hT X
  obtain ⟨v, vm₁, ⟨U', l2, c2, s2⟩, hW₁, X', ⟨g', mk, t, L, e1, e2, hq, h1, hL, h2, h3⟩, st⟩ := vx_callVW X hx (C := C) (hh := hh) (bytes := bytes) (maxL := maxL) (ret := ret) ho hl hin hse hcode hy hK (by rw [hT]; exact hcB) hoB hclB hg (hsize.trans hml.symm) (argsL := As) (rest := rest) (fun sig h => hn.trans (hlen sig h)) hstack hW (by rw [hb]; exact hdg)
    (fun vm₁ hW₁ => ⟨hf.1, hf.2, hPc (T.setVm vm₁) hT hW₁⟩)
  dsimp only [Pt.U, Pt.locs, Pt.cells, Pt.slots] at X' e1 e2 h1 h2 h3 st
  subst h1; subst h2; subst h3
  exact ⟨v, (T.setVm vm₁).calling g' mk (Value.ref b :: As).toArray, t, U', L, hT, X', hL, e1, e2, hq, st⟩
section
variable {y : MethodName} {bytes cc : ByteArray} {maxL nL mc ms n index : Nat} {ret : Option FieldType} {ws : List Cond} {rm : Room} {Pc : Array Value → State → Prop} {Qc : Array Value → State → Outcome → State → Prop} {XC : String → State → State → Prop} {free : Addr → Prop} {Ts : List Cond} {own C : String} {b : Addr} {As rest : List Value} {g : JFrame}
theorem vx_runVX {hh : List (Nat × Nat × Nat × Nat)} (S : CallFix p m c cc nL s args Ts own) (hM : vx_Met l y ws rm Pc Qc XC mc ms free) (cw : vx_CVW R s args own C index y bytes maxL ret hh ws rm mc ms n) (hp : PreV s H C b Pc As)
    (hg : g.method = m) (hn : As.length = n) (hsize : g.locals.size = nL) (hstack : g.stack = As.reverse ++ .ref b :: rest) (hW : 2 * g.monitorRoom + (rest.map fun v => v.category).sum ≤ 8) (hdg : decode cc g.pc = .ok (.invokevirtual index, 3)) (hf : cells + mc ≤ R.cells ∧ slots + ms ≤ R.slots) :
    vx_Run p l e R s m args below meth c H locs cells slots mc ms g rest (Qc (Value.ref b :: As).toArray) XC free := by
  obtain ⟨⟨hrc, hrs, hfr, hlo, hws, hcw⟩, hcode, hini, hy, hlen, hl, hin, hse⟩ := cw
  have hK : vx_Back l R p e below s args y 3 8 (PreOf R mc ms Pc) (PostOf Qc mc ms free) (vx_Post XC mc ms free) := vx_backW (hh := hh) (bytes := bytes) (maxL := maxL) (ret := ret) hM hp.1 hrc hrs hfr hlo hws hcw (fun a' U hW => word_at hW (Or.inl (by first | rfl | simp [Cond.onTables, Cond.keeps, Cond.steady])) hini)
  obtain ⟨hx, hb, hml, ho, -⟩ := S
  obtain ⟨-, ⟨cellB, hcB, hoB, hclB⟩, hPc⟩ := hp
  intro T hT X
  rcases vx_callVX X hx (C := C) (hh := hh) (bytes := bytes) (maxL := maxL) (ret := ret) ho hl hin hse hcode hy hK (by rw [hT]; exact hcB) hoB hclB hg (hsize.trans hml.symm) (argsL := As) (rest := rest) (fun sig h => hn.trans (hlen sig h)) hstack hW (by rw [hb]; exact hdg)
    (fun vm₁ hW₁ => ⟨hf.1, hf.2, hPc (T.setVm vm₁) hT hW₁⟩) with ⟨v, vm₁, ⟨U', l2, c2, s2⟩, hW₁, X', ⟨g', mk, t, L, e1, e2, hq, h1, hL, h2, h3⟩, st⟩ | ⟨q, vm₁, ⟨U', l2, c2, s2⟩, hW₁, X', ⟨g', mk, t, L, E, ce, e1, e2, hq, hce, hcv, hcl, h1, hL, h2, h3⟩, st⟩
  · dsimp only [Pt.U, Pt.locs, Pt.cells, Pt.slots] at X' e1 e2 h1 h2 h3 st
    subst h1; subst h2; subst h3
    exact Or.inl ⟨v, (T.setVm vm₁).calling g' mk (Value.ref b :: As).toArray, t, U', L, hT, X', hL, e1, e2, hq, st⟩
  · dsimp only [Pt.U, Pt.locs, Pt.cells, Pt.slots] at X' e1 e2 h1 h2 h3 st hcl
    subst h1; subst h2; subst h3
    exact Or.inr ⟨q, (T.setVm vm₁).calling g' mk (Value.ref b :: As).toArray, t, U', L, E, ce, hT, X', hL, e1, e2, hq, hce, hcv, vx_cls hW₁ hcl, st⟩
theorem vx_runSX {hh : List (Nat × Nat × Nat × Nat)} (S : CallFix p m c cc nL s args Ts own) (hM : vx_Met l y ws rm Pc Qc XC mc ms free) (cw : vx_CSW R s args own index y bytes maxL ret hh ws rm mc ms n) (hp : PreS s H Pc As)
    (hg : g.method = m) (hn : As.length = n) (hsize : g.locals.size = nL) (hstack : g.stack = As.reverse ++ rest) (hW : 2 * g.monitorRoom + (rest.map fun v => v.category).sum ≤ 8) (hdg : decode cc g.pc = .ok (.invokestatic index, 3)) (hf : cells + mc ≤ R.cells ∧ slots + ms ≤ R.slots) :
    vx_Run p l e R s m args below meth c H locs cells slots mc ms g rest (Qc As.toArray) XC free := by
  obtain ⟨⟨hrc, hrs, hfr, hlo, hws, hcw⟩, hcode, hini, hy, hlen, hl, hstt⟩ := cw
  have hK : vx_Back l R p e below s args y 3 8 (PreOf R mc ms Pc) (PostOf Qc mc ms free) (vx_Post XC mc ms free) := vx_backW (hh := hh) (bytes := bytes) (maxL := maxL) (ret := ret) hM hp.1 hrc hrs hfr hlo hws hcw (fun a' U hW => word_at hW (Or.inl (by first | rfl | simp [Cond.onTables, Cond.keeps, Cond.steady])) hini)
  obtain ⟨hx, hb, hml, ho, -⟩ := S
  intro T hT X
  rcases vx_callSX X hx (hh := hh) (bytes := bytes) (maxL := maxL) (ret := ret) ho hl hstt hini hcode hy hK hg (hsize.trans hml.symm) (argsL := As) (rest := rest) (fun sig h => hn.trans (hlen sig h)) hstack hW (by rw [hb]; exact hdg)
    (fun vm₁ hW₁ => ⟨hf.1, hf.2, hp.2 (T.setVm vm₁) hT hW₁⟩) with ⟨v, vm₁, ⟨U', l2, c2, s2⟩, hW₁, X', ⟨g', mk, t, L, e1, e2, hq, h1, hL, h2, h3⟩, st⟩ | ⟨q, vm₁, ⟨U', l2, c2, s2⟩, hW₁, X', ⟨g', mk, t, L, E, ce, e1, e2, hq, hce, hcv, hcl, h1, hL, h2, h3⟩, st⟩
  · dsimp only [Pt.U, Pt.locs, Pt.cells, Pt.slots] at X' e1 e2 h1 h2 h3 st
    subst h1; subst h2; subst h3
    exact Or.inl ⟨v, (T.setVm vm₁).calling g' mk As.toArray, t, U', L, hT, X', hL, e1, e2, hq, st⟩
  · dsimp only [Pt.U, Pt.locs, Pt.cells, Pt.slots] at X' e1 e2 h1 h2 h3 st hcl
    subst h1; subst h2; subst h3
    exact Or.inr ⟨q, (T.setVm vm₁).calling g' mk As.toArray, t, U', L, E, ce, hT, X', hL, e1, e2, hq, hce, hcv, vx_cls hW₁ hcl, st⟩
end
end VXH
theorem vx_ofWH {l : Launch} {y : MethodName} {ws ws' : List Cond} {rm : Room} {Pc : Array Value → State → Prop} {Qc : Array Value → State → Outcome → State → Prop} {XC : String → State → State → Prop} {mc ms : Nat} {free : Addr → Prop} {cc : ByteArray} {maxL : Nat} {ret : Option FieldType} {hh : List (Nat × Nat × Nat × Nat)}
    (hy : plainName y.cls = true) (hw : ws = Cond.codeWith y cc maxL ret hh :: ws')
    (body : ∀ p e s m args below meth c s₁, BodyLoose p l y (headSpec ws rm) cc maxL ret e s m args below meth c s₁ → c.maxLocals = maxL → Pc args s →
      W p l e (headSpec ws rm).room s m args below meth c s.heap [] 0 0 (vx_MQ below Qc XC args s mc ms free) (entryFrame m args maxL)) : vx_Met l y ws rm Pc Qc XC mc ms free := by
  refine MetFree.of_bodyS (code := cc) (maxLocals := maxL) (ret := ret) hy ?_ ?_
  · intro args s m h hn
    obtain ⟨m9, meth, c, hn9, h1, h2, h3, h4, -, h5, h6, -⟩ := Cond.codeWith_spec (atoms_spec (ws := ws) h _ (by rw [hw]; exact List.mem_cons_self))
    cases hn.symm.trans hn9
    exact ⟨meth, c, h1, h2, h3, h4, h5, h6⟩
  · intro p e s m args below meth c s₁ B hml hP _
    have hh0 : s₁.heap = s.heap := by rw [B.state]; rfl
    obtain ⟨t, a1, o, b1, b2, b3⟩ := body p e s m args below meth c s₁ B hml hP s₁ hh0 (Stand.of_body B)
    exact ⟨t, o, a1, b1, b2, b3⟩
/-! ===== END ===== -/
end
section
/-! ===== BEGIN printed: names, fields, word lists, decode rows ===== -/
def RX0 : String := "EntryMasters$Classes"
def TX0 : u_T := fun k => match k with
  | 0 => ("EntryMasters$Classes", "needed", "[I", true)
  | _ => ("EntryMasters$Classes", "allowed", "[I", true)
def tyX0 : Nat → FieldType := fun k => match k with
  | 0 => .array .int
  | _ => .array .int
abbrev wsX00 : List Cond := u_ws RX0 TX0 2
theorem nmX0 : ∀ a, a < 2 → ∀ b, b < 2 → a ≠ b → (TX0 a).2.1 ≠ (TX0 b).2.1 := by decide +kernel
theorem tyX0_ok : ∀ k, k < 2 → parseFieldDescriptor (TX0 k).2.2.1 = some (tyX0 k) := by decide +kernel
abbrev cX0_init : ByteArray := prog_2_method_1_code
def yX0_init : MethodName := ⟨RX0, "<init>", "()V"⟩
abbrev cX0_define : ByteArray := prog_2_method_2_code
def yX0_define : MethodName := ⟨RX0, "define", "(III)V"⟩
abbrev cX0_needs : ByteArray := prog_2_method_3_code
def yX0_needs : MethodName := ⟨RX0, "needs", "(II)Z"⟩
abbrev cX0_allows : ByteArray := prog_2_method_4_code
def yX0_allows : MethodName := ⟨RX0, "allows", "(II)Z"⟩
abbrev cX0_hasBit : ByteArray := prog_2_method_5_code
def yX0_hasBit : MethodName := ⟨RX0, "hasBit", "(II)Z"⟩
def RX1 : String := "EntryMasters$Filters"
def TX1 : u_T := fun k => match k with
  | 0 => ("EntryMasters$Filters", "kinds", "[I", true)
  | 1 => ("EntryMasters$Filters", "firsts", "[I", true)
  | 2 => ("EntryMasters$Filters", "seconds", "[I", true)
  | 3 => ("EntryMasters$Filters", "truths", "[I", true)
  | _ => ("EntryMasters$Filters", "count", "I", false)
def tyX1 : Nat → FieldType := fun k => match k with
  | 0 => .array .int
  | 1 => .array .int
  | 2 => .array .int
  | 3 => .array .int
  | _ => .int
abbrev wsX10 : List Cond := u_ws RX1 TX1 5
theorem nmX1 : ∀ a, a < 5 → ∀ b, b < 5 → a ≠ b → (TX1 a).2.1 ≠ (TX1 b).2.1 := by decide +kernel
theorem tyX1_ok : ∀ k, k < 5 → parseFieldDescriptor (TX1 k).2.2.1 = some (tyX1 k) := by decide +kernel
abbrev cX1_init : ByteArray := prog_3_method_1_code
def yX1_init : MethodName := ⟨RX1, "<init>", "()V"⟩
abbrev cX1_append : ByteArray := prog_3_method_2_code
def yX1_append : MethodName := ⟨RX1, "append", "(III)I"⟩
abbrev cX1_truthFor : ByteArray := prog_3_method_3_code
def yX1_truthFor : MethodName := ⟨RX1, "truthFor", "(ILEntryMasters$Tree;I)I"⟩
abbrev cX1_truthOfTest : ByteArray := prog_3_method_4_code
def yX1_truthOfTest : MethodName := ⟨RX1, "truthOfTest", "(IIILEntryMasters$Tree;I)I"⟩
abbrev cX1_truthOfJoin : ByteArray := prog_3_method_5_code
def yX1_truthOfJoin : MethodName := ⟨RX1, "truthOfJoin", "(III)I"⟩
abbrev cX1_both : ByteArray := prog_3_method_6_code
def yX1_both : MethodName := ⟨RX1, "both", "(II)I"⟩
abbrev cX1_opposite : ByteArray := prog_3_method_7_code
def yX1_opposite : MethodName := ⟨RX1, "opposite", "(I)I"⟩
def RX2 : String := "EntryMasters$Log"
def TX2 : u_T := fun k => match k with
  | 0 => ("EntryMasters$Log", "kinds", "[I", true)
  | 1 => ("EntryMasters$Log", "stamps", "[I", true)
  | 2 => ("EntryMasters$Log", "entries", "[I", true)
  | 3 => ("EntryMasters$Log", "targets", "[I", true)
  | 4 => ("EntryMasters$Log", "contents", "[I", true)
  | 5 => ("EntryMasters$Log", "classesOfAdded", "[I", true)
  | _ => ("EntryMasters$Log", "count", "I", false)
def tyX2 : Nat → FieldType := fun k => match k with
  | 0 => .array .int
  | 1 => .array .int
  | 2 => .array .int
  | 3 => .array .int
  | 4 => .array .int
  | 5 => .array .int
  | _ => .int
abbrev wsX20 : List Cond := u_ws RX2 TX2 7
theorem nmX2 : ∀ a, a < 7 → ∀ b, b < 7 → a ≠ b → (TX2 a).2.1 ≠ (TX2 b).2.1 := by decide +kernel
theorem tyX2_ok : ∀ k, k < 7 → parseFieldDescriptor (TX2 k).2.2.1 = some (tyX2 k) := by decide +kernel
abbrev cX2_init : ByteArray := prog_4_method_1_code
def yX2_init : MethodName := ⟨RX2, "<init>", "()V"⟩
abbrev cX2_append : ByteArray := prog_4_method_2_code
def yX2_append : MethodName := ⟨RX2, "append", "(IIIIII)I"⟩
abbrev cX2_stampFrom : ByteArray := prog_4_method_3_code
def yX2_stampFrom : MethodName := ⟨RX2, "stampFrom", "(II)I"⟩
abbrev cX2_stampAt : ByteArray := prog_4_method_4_code
def yX2_stampAt : MethodName := ⟨RX2, "stampAt", "(I)I"⟩
abbrev cX2_timeAt : ByteArray := prog_4_method_5_code
def yX2_timeAt : MethodName := ⟨RX2, "timeAt", "(I)I"⟩
def RX3 : String := "EntryMasters$Marks"
def TX3 : u_T := fun k => match k with
  | 0 => ("EntryMasters$Marks", "rights", "[I", true)
  | _ => ("EntryMasters$Marks", "referrals", "[Z", true)
def tyX3 : Nat → FieldType := fun k => match k with
  | 0 => .array .int
  | _ => .array .boolean
abbrev wsX30 : List Cond := u_ws RX3 TX3 2
theorem nmX3 : ∀ a, a < 2 → ∀ b, b < 2 → a ≠ b → (TX3 a).2.1 ≠ (TX3 b).2.1 := by decide +kernel
theorem tyX3_ok : ∀ k, k < 2 → parseFieldDescriptor (TX3 k).2.2.1 = some (tyX3 k) := by decide +kernel
abbrev cX3_init : ByteArray := prog_5_method_1_code
def yX3_init : MethodName := ⟨RX3, "<init>", "()V"⟩
abbrev cX3_putRight : ByteArray := prog_5_method_2_code
def yX3_putRight : MethodName := ⟨RX3, "putRight", "(III)V"⟩
abbrev cX3_putReferral : ByteArray := prog_5_method_3_code
def yX3_putReferral : MethodName := ⟨RX3, "putReferral", "(IZ)V"⟩
abbrev cX3_isReferral : ByteArray := prog_5_method_4_code
def yX3_isReferral : MethodName := ⟨RX3, "isReferral", "(I)Z"⟩
abbrev cX3_rightThatCounts : ByteArray := prog_5_method_5_code
def yX3_rightThatCounts : MethodName := ⟨RX3, "rightThatCounts", "(ILEntryMasters$Tree;I)I"⟩
def RX4 : String := "EntryMasters$Tree"
def TX4 : u_T := fun k => match k with
  | 0 => ("EntryMasters$Tree", "master", "I", true)
  | 1 => ("EntryMasters$Tree", "log", "LEntryMasters$Log;", true)
  | 2 => ("EntryMasters$Tree", "classes", "LEntryMasters$Classes;", true)
  | 3 => ("EntryMasters$Tree", "known", "[I", true)
  | 4 => ("EntryMasters$Tree", "knownCount", "I", false)
  | 5 => ("EntryMasters$Tree", "there", "[Z", true)
  | 6 => ("EntryMasters$Tree", "parents", "[I", true)
  | 7 => ("EntryMasters$Tree", "labels", "[I", true)
  | 8 => ("EntryMasters$Tree", "classesOfEntries", "[I", true)
  | 9 => ("EntryMasters$Tree", "values", "[I", true)
  | _ => ("EntryMasters$Tree", "size", "I", false)
def tyX4 : Nat → FieldType := fun k => match k with
  | 0 => .int
  | 1 => .object "EntryMasters$Log"
  | 2 => .object "EntryMasters$Classes"
  | 3 => .array .int
  | 4 => .int
  | 5 => .array .boolean
  | 6 => .array .int
  | 7 => .array .int
  | 8 => .array .int
  | 9 => .array .int
  | _ => .int
abbrev wsX40 : List Cond := u_ws RX4 TX4 11
theorem nmX4 : ∀ a, a < 11 → ∀ b, b < 11 → a ≠ b → (TX4 a).2.1 ≠ (TX4 b).2.1 := by decide +kernel
theorem tyX4_ok : ∀ k, k < 11 → parseFieldDescriptor (TX4 k).2.2.1 = some (tyX4 k) := by decide +kernel
abbrev cX4_init : ByteArray := prog_6_method_1_code
def yX4_init : MethodName := ⟨RX4, "<init>", "(ILEntryMasters$Log;LEntryMasters$Classes;)V"⟩
abbrev cX4_clear : ByteArray := prog_6_method_2_code
def yX4_clear : MethodName := ⟨RX4, "clear", "()V"⟩
abbrev cX4_knows : ByteArray := prog_6_method_3_code
def yX4_knows : MethodName := ⟨RX4, "knows", "(I)Z"⟩
abbrev cX4_stampOfNext : ByteArray := prog_6_method_4_code
def yX4_stampOfNext : MethodName := ⟨RX4, "stampOfNext", "()I"⟩
abbrev cX4_learn : ByteArray := prog_6_method_5_code
def yX4_learn : MethodName := ⟨RX4, "learn", "(I)V"⟩
abbrev cX4_putInOrder : ByteArray := prog_6_method_6_code
def yX4_putInOrder : MethodName := ⟨RX4, "putInOrder", "(I)I"⟩
abbrev cX4_perform : ByteArray := prog_6_method_7_code
def yX4_perform : MethodName := ⟨RX4, "perform", "(I)V"⟩
abbrev cX4_performAdding : ByteArray := prog_6_method_8_code
def yX4_performAdding : MethodName := ⟨RX4, "performAdding", "(IIII)V"⟩
abbrev cX4_performSetting : ByteArray := prog_6_method_9_code
def yX4_performSetting : MethodName := ⟨RX4, "performSetting", "(III)V"⟩
abbrev cX4_performMoving : ByteArray := prog_6_method_10_code
def yX4_performMoving : MethodName := ⟨RX4, "performMoving", "(III)V"⟩
abbrev cX4_performDeleting : ByteArray := prog_6_method_11_code
def yX4_performDeleting : MethodName := ⟨RX4, "performDeleting", "(I)V"⟩
abbrev cX4_settle : ByteArray := prog_6_method_12_code
def yX4_settle : MethodName := ⟨RX4, "settle", "(II)V"⟩
abbrev cX4_has : ByteArray := prog_6_method_13_code
def yX4_has : MethodName := ⟨RX4, "has", "(I)Z"⟩
abbrev cX4_parentAt : ByteArray := prog_6_method_14_code
def yX4_parentAt : MethodName := ⟨RX4, "parentAt", "(I)I"⟩
abbrev cX4_labelAt : ByteArray := prog_6_method_15_code
def yX4_labelAt : MethodName := ⟨RX4, "labelAt", "(I)I"⟩
abbrev cX4_valueAt : ByteArray := prog_6_method_16_code
def yX4_valueAt : MethodName := ⟨RX4, "valueAt", "(II)I"⟩
abbrev cX4_mayHold : ByteArray := prog_6_method_17_code
def yX4_mayHold : MethodName := ⟨RX4, "mayHold", "(II)Z"⟩
abbrev cX4_hasAllNeeded : ByteArray := prog_6_method_18_code
def yX4_hasAllNeeded : MethodName := ⟨RX4, "hasAllNeeded", "(I)Z"⟩
abbrev cX4_isAtOrBelow : ByteArray := prog_6_method_19_code
def yX4_isAtOrBelow : MethodName := ⟨RX4, "isAtOrBelow", "(II)Z"⟩
abbrev cX4_hasChild : ByteArray := prog_6_method_20_code
def yX4_hasChild : MethodName := ⟨RX4, "hasChild", "(I)Z"⟩
abbrev cX4_childWithLabelLike : ByteArray := prog_6_method_21_code
def yX4_childWithLabelLike : MethodName := ⟨RX4, "childWithLabelLike", "(III)I"⟩
abbrev cX4_areLike : ByteArray := prog_6_method_22_code
def yX4_areLike : MethodName := ⟨RX4, "areLike", "(II)Z"⟩
abbrev cX4_isSameAs : ByteArray := prog_6_method_23_code
def yX4_isSameAs : MethodName := ⟨RX4, "isSameAs", "(LEntryMasters$Tree;)Z"⟩
abbrev cX4_hasSameEntry : ByteArray := prog_6_method_24_code
def yX4_hasSameEntry : MethodName := ⟨RX4, "hasSameEntry", "(LEntryMasters$Tree;I)Z"⟩
abbrev cX4_orderUnderParent : ByteArray := prog_6_method_25_code
def yX4_orderUnderParent : MethodName := ⟨RX4, "orderUnderParent", "(I)I"⟩
abbrev cX4_childAfter : ByteArray := prog_6_method_26_code
def yX4_childAfter : MethodName := ⟨RX4, "childAfter", "(IILEntryMasters$Marks;)I"⟩
abbrev cX4_entryAfter : ByteArray := prog_6_method_27_code
def yX4_entryAfter : MethodName := ⟨RX4, "entryAfter", "(IILEntryMasters$Marks;)I"⟩
def RX5 : String := "EntryMasters"
def TX5 : u_T := fun k => match k with
  | 0 => ("EntryMasters", "classes", "LEntryMasters$Classes;", true)
  | 1 => ("EntryMasters", "log", "LEntryMasters$Log;", true)
  | 2 => ("EntryMasters", "firstTree", "LEntryMasters$Tree;", true)
  | 3 => ("EntryMasters", "secondTree", "LEntryMasters$Tree;", true)
  | 4 => ("EntryMasters", "marks", "LEntryMasters$Marks;", true)
  | _ => ("EntryMasters", "filters", "LEntryMasters$Filters;", true)
def tyX5 : Nat → FieldType := fun k => match k with
  | 0 => .object "EntryMasters$Classes"
  | 1 => .object "EntryMasters$Log"
  | 2 => .object "EntryMasters$Tree"
  | 3 => .object "EntryMasters$Tree"
  | 4 => .object "EntryMasters$Marks"
  | _ => .object "EntryMasters$Filters"
abbrev wsX50 : List Cond := u_ws RX5 TX5 6
theorem nmX5 : ∀ a, a < 6 → ∀ b, b < 6 → a ≠ b → (TX5 a).2.1 ≠ (TX5 b).2.1 := by decide +kernel
theorem tyX5_ok : ∀ k, k < 6 → parseFieldDescriptor (TX5 k).2.2.1 = some (tyX5 k) := by decide +kernel
abbrev cX5_init : ByteArray := prog_1_method_1_code
def yX5_init : MethodName := ⟨RX5, "<init>", "()V"⟩
abbrev cX5_setClass : ByteArray := prog_1_method_2_code
def yX5_setClass : MethodName := ⟨RX5, "setClass", "(III)V"⟩
abbrev cX5_add : ByteArray := prog_1_method_3_code
def yX5_add : MethodName := ⟨RX5, "add", "(IIII)I"⟩
abbrev cX5_set : ByteArray := prog_1_method_4_code
def yX5_set : MethodName := ⟨RX5, "set", "(IIII)I"⟩
abbrev cX5_move : ByteArray := prog_1_method_5_code
def yX5_move : MethodName := ⟨RX5, "move", "(IIII)I"⟩
abbrev cX5_delete : ByteArray := prog_1_method_6_code
def yX5_delete : MethodName := ⟨RX5, "delete", "(II)I"⟩
abbrev cX5_carry : ByteArray := prog_1_method_7_code
def yX5_carry : MethodName := ⟨RX5, "carry", "(II)Z"⟩
abbrev cX5_changes : ByteArray := prog_1_method_8_code
def yX5_changes : MethodName := ⟨RX5, "changes", "()I"⟩
abbrev cX5_timeOf : ByteArray := prog_1_method_9_code
def yX5_timeOf : MethodName := ⟨RX5, "timeOf", "(I)I"⟩
abbrev cX5_entries : ByteArray := prog_1_method_10_code
def yX5_entries : MethodName := ⟨RX5, "entries", "(I)I"⟩
abbrev cX5_isThere : ByteArray := prog_1_method_11_code
def yX5_isThere : MethodName := ⟨RX5, "isThere", "(II)Z"⟩
abbrev cX5_parentOf : ByteArray := prog_1_method_12_code
def yX5_parentOf : MethodName := ⟨RX5, "parentOf", "(II)I"⟩
abbrev cX5_labelOf : ByteArray := prog_1_method_13_code
def yX5_labelOf : MethodName := ⟨RX5, "labelOf", "(II)I"⟩
abbrev cX5_value : ByteArray := prog_1_method_14_code
def yX5_value : MethodName := ⟨RX5, "value", "(III)I"⟩
abbrev cX5_isWhole : ByteArray := prog_1_method_15_code
def yX5_isWhole : MethodName := ⟨RX5, "isWhole", "(II)Z"⟩
abbrev cX5_find : ByteArray := prog_1_method_16_code
def yX5_find : MethodName := ⟨RX5, "find", "(III)I"⟩
abbrev cX5_areAlike : ByteArray := prog_1_method_17_code
def yX5_areAlike : MethodName := ⟨RX5, "areAlike", "()Z"⟩
abbrev cX5_setRight : ByteArray := prog_1_method_18_code
def yX5_setRight : MethodName := ⟨RX5, "setRight", "(III)V"⟩
abbrev cX5_refer : ByteArray := prog_1_method_19_code
def yX5_refer : MethodName := ⟨RX5, "refer", "(IZ)V"⟩
abbrev cX5_test : ByteArray := prog_1_method_20_code
def yX5_test : MethodName := ⟨RX5, "test", "(III)I"⟩
abbrev cX5_join : ByteArray := prog_1_method_21_code
def yX5_join : MethodName := ⟨RX5, "join", "(III)I"⟩
abbrev cX5_holds : ByteArray := prog_1_method_22_code
def yX5_holds : MethodName := ⟨RX5, "holds", "(III)I"⟩
abbrev cX5_search : ByteArray := prog_1_method_23_code
def yX5_search : MethodName := ⟨RX5, "search", "(IIIIII)I"⟩
abbrev cX5_isFound : ByteArray := prog_1_method_24_code
def yX5_isFound : MethodName := ⟨RX5, "isFound", "(LEntryMasters$Tree;III)Z"⟩
abbrev cX5_nextInScope : ByteArray := prog_1_method_25_code
def yX5_nextInScope : MethodName := ⟨RX5, "nextInScope", "(LEntryMasters$Tree;III)I"⟩
abbrev cX5_treeOf : ByteArray := prog_1_method_26_code
def yX5_treeOf : MethodName := ⟨RX5, "treeOf", "(I)LEntryMasters$Tree;"⟩
abbrev cX5_checkIndex : ByteArray := prog_1_method_27_code
def yX5_checkIndex : MethodName := ⟨RX5, "checkIndex", "(II)V"⟩
abbrev cX5_checkEntry : ByteArray := prog_1_method_28_code
def yX5_checkEntry : MethodName := ⟨RX5, "checkEntry", "(LEntryMasters$Tree;I)V"⟩
abbrev cX5_checkArgument : ByteArray := prog_1_method_29_code
def yX5_checkArgument : MethodName := ⟨RX5, "checkArgument", "(III)V"⟩
abbrev cX5_checkRoomForChange : ByteArray := prog_1_method_30_code
def yX5_checkRoomForChange : MethodName := ⟨RX5, "checkRoomForChange", "()V"⟩
abbrev cX5_checkRoomForFilter : ByteArray := prog_1_method_31_code
def yX5_checkRoomForFilter : MethodName := ⟨RX5, "checkRoomForFilter", "()V"⟩
abbrev cX5_checkIsNotFixed : ByteArray := prog_1_method_32_code
def yX5_checkIsNotFixed : MethodName := ⟨RX5, "checkIsNotFixed", "(I)V"⟩
abbrev cX5_checkLabelIsFree : ByteArray := prog_1_method_33_code
def yX5_checkLabelIsFree : MethodName := ⟨RX5, "checkLabelIsFree", "(LEntryMasters$Tree;III)V"⟩
abbrev cX5_at : ByteArray := prog_1_method_34_code
def yX5_at : MethodName := ⟨RX5, "at", "([II)I"⟩
abbrev cX5_put : ByteArray := prog_1_method_35_code
def yX5_put : MethodName := ⟨RX5, "put", "([III)V"⟩
def RX6 : String := "EntryMastersModel"
def TX6 : u_T := fun k => match k with
  | 0 => ("EntryMastersModel", "needs", "[I", true)
  | 1 => ("EntryMastersModel", "allows", "[I", true)
  | 2 => ("EntryMastersModel", "changes", "I", false)
  | 3 => ("EntryMastersModel", "kind", "[I", true)
  | 4 => ("EntryMastersModel", "entry", "[I", true)
  | 5 => ("EntryMastersModel", "under", "[I", true)
  | 6 => ("EntryMastersModel", "named", "[I", true)
  | 7 => ("EntryMastersModel", "which", "[I", true)
  | 8 => ("EntryMastersModel", "worth", "[I", true)
  | 9 => ("EntryMastersModel", "time", "[I", true)
  | 10 => ("EntryMastersModel", "maker", "[I", true)
  | 11 => ("EntryMastersModel", "known", "[I", true)
  | 12 => ("EntryMastersModel", "right", "[I", true)
  | 13 => ("EntryMastersModel", "referral", "[Z", true)
  | 14 => ("EntryMastersModel", "filters", "I", false)
  | 15 => ("EntryMastersModel", "sort", "[I", true)
  | 16 => ("EntryMastersModel", "first", "[I", true)
  | 17 => ("EntryMastersModel", "second", "[I", true)
  | 18 => ("EntryMastersModel", "truth", "[I", true)
  | 19 => ("EntryMastersModel", "there", "[Z", true)
  | 20 => ("EntryMastersModel", "parent", "[I", true)
  | 21 => ("EntryMastersModel", "label", "[I", true)
  | 22 => ("EntryMastersModel", "its", "[I", true)
  | 23 => ("EntryMastersModel", "value", "[I", true)
  | 24 => ("EntryMastersModel", "other", "[I", true)
  | _ => ("EntryMastersModel", "thrown", "I", false)
def tyX6 : Nat → FieldType := fun k => match k with
  | 0 => .array .int
  | 1 => .array .int
  | 2 => .int
  | 3 => .array .int
  | 4 => .array .int
  | 5 => .array .int
  | 6 => .array .int
  | 7 => .array .int
  | 8 => .array .int
  | 9 => .array .int
  | 10 => .array .int
  | 11 => .array .int
  | 12 => .array .int
  | 13 => .array .boolean
  | 14 => .int
  | 15 => .array .int
  | 16 => .array .int
  | 17 => .array .int
  | 18 => .array .int
  | 19 => .array .boolean
  | 20 => .array .int
  | 21 => .array .int
  | 22 => .array .int
  | 23 => .array .int
  | 24 => .array .int
  | _ => .int
abbrev wsX60 : List Cond := u_ws RX6 TX6 26
theorem nmX6 : ∀ a, a < 26 → ∀ b, b < 26 → a ≠ b → (TX6 a).2.1 ≠ (TX6 b).2.1 := by decide +kernel
theorem tyX6_ok : ∀ k, k < 26 → parseFieldDescriptor (TX6 k).2.2.1 = some (tyX6 k) := by decide +kernel
abbrev cX6_init : ByteArray := prog_8_method_1_code
def yX6_init : MethodName := ⟨RX6, "<init>", "()V"⟩
abbrev cX6_thrown : ByteArray := prog_8_method_2_code
def yX6_thrown : MethodName := ⟨RX6, "thrown", "()I"⟩
abbrev cX6_isIn : ByteArray := prog_8_method_3_code
def yX6_isIn : MethodName := ⟨RX6, "isIn", "(III)Z"⟩
abbrev cX6_isMaster : ByteArray := prog_8_method_4_code
def yX6_isMaster : MethodName := ⟨RX6, "isMaster", "(I)Z"⟩
abbrev cX6_setClass : ByteArray := prog_8_method_5_code
def yX6_setClass : MethodName := ⟨RX6, "setClass", "(III)V"⟩
abbrev cX6_allowed : ByteArray := prog_8_method_6_code
def yX6_allowed : MethodName := ⟨RX6, "allowed", "(II)Z"⟩
abbrev cX6_alike : ByteArray := prog_8_method_7_code
def yX6_alike : MethodName := ⟨RX6, "alike", "(II)Z"⟩
abbrev cX6_finds : ByteArray := prog_8_method_8_code
def yX6_finds : MethodName := ⟨RX6, "finds", "(III)I"⟩
abbrev cX6_isWithin : ByteArray := prog_8_method_9_code
def yX6_isWithin : MethodName := ⟨RX6, "isWithin", "(II)Z"⟩
abbrev cX6_hangs : ByteArray := prog_8_method_10_code
def yX6_hangs : MethodName := ⟨RX6, "hangs", "(II)V"⟩
abbrev cX6_does : ByteArray := prog_8_method_11_code
def yX6_does : MethodName := ⟨RX6, "does", "(I)V"⟩
abbrev cX6_knows : ByteArray := prog_8_method_12_code
def yX6_knows : MethodName := ⟨RX6, "knows", "(II)Z"⟩
abbrev cX6_next : ByteArray := prog_8_method_13_code
def yX6_next : MethodName := ⟨RX6, "next", "(II)I"⟩
abbrev cX6_grows : ByteArray := prog_8_method_14_code
def yX6_grows : MethodName := ⟨RX6, "grows", "(I)V"⟩
abbrev cX6_isHere : ByteArray := prog_8_method_15_code
def yX6_isHere : MethodName := ⟨RX6, "isHere", "(II)Z"⟩
abbrev cX6_made : ByteArray := prog_8_method_16_code
def yX6_made : MethodName := ⟨RX6, "made", "(III)I"⟩
abbrev cX6_add : ByteArray := prog_8_method_17_code
def yX6_add : MethodName := ⟨RX6, "add", "(IIII)I"⟩
abbrev cX6_set : ByteArray := prog_8_method_18_code
def yX6_set : MethodName := ⟨RX6, "set", "(IIII)I"⟩
abbrev cX6_move : ByteArray := prog_8_method_19_code
def yX6_move : MethodName := ⟨RX6, "move", "(IIII)I"⟩
abbrev cX6_count : ByteArray := prog_8_method_20_code
def yX6_count : MethodName := ⟨RX6, "count", "(I)I"⟩
abbrev cX6_delete : ByteArray := prog_8_method_21_code
def yX6_delete : MethodName := ⟨RX6, "delete", "(II)I"⟩
abbrev cX6_isChange : ByteArray := prog_8_method_22_code
def yX6_isChange : MethodName := ⟨RX6, "isChange", "(I)Z"⟩
abbrev cX6_carry : ByteArray := prog_8_method_23_code
def yX6_carry : MethodName := ⟨RX6, "carry", "(II)Z"⟩
abbrev cX6_changes : ByteArray := prog_8_method_24_code
def yX6_changes : MethodName := ⟨RX6, "changes", "()I"⟩
abbrev cX6_timeOf : ByteArray := prog_8_method_25_code
def yX6_timeOf : MethodName := ⟨RX6, "timeOf", "(I)I"⟩
abbrev cX6_entries : ByteArray := prog_8_method_26_code
def yX6_entries : MethodName := ⟨RX6, "entries", "(I)I"⟩
abbrev cX6_isThere : ByteArray := prog_8_method_27_code
def yX6_isThere : MethodName := ⟨RX6, "isThere", "(II)Z"⟩
abbrev cX6_asks : ByteArray := prog_8_method_28_code
def yX6_asks : MethodName := ⟨RX6, "asks", "(II)Z"⟩
abbrev cX6_parentOf : ByteArray := prog_8_method_29_code
def yX6_parentOf : MethodName := ⟨RX6, "parentOf", "(II)I"⟩
abbrev cX6_labelOf : ByteArray := prog_8_method_30_code
def yX6_labelOf : MethodName := ⟨RX6, "labelOf", "(II)I"⟩
abbrev cX6_value : ByteArray := prog_8_method_31_code
def yX6_value : MethodName := ⟨RX6, "value", "(III)I"⟩
abbrev cX6_isWhole : ByteArray := prog_8_method_32_code
def yX6_isWhole : MethodName := ⟨RX6, "isWhole", "(II)Z"⟩
abbrev cX6_find : ByteArray := prog_8_method_33_code
def yX6_find : MethodName := ⟨RX6, "find", "(III)I"⟩
abbrev cX6_told : ByteArray := prog_8_method_34_code
def yX6_told : MethodName := ⟨RX6, "told", "(II)I"⟩
abbrev cX6_areAlike : ByteArray := prog_8_method_35_code
def yX6_areAlike : MethodName := ⟨RX6, "areAlike", "()Z"⟩
abbrev cX6_setRight : ByteArray := prog_8_method_36_code
def yX6_setRight : MethodName := ⟨RX6, "setRight", "(III)V"⟩
abbrev cX6_refer : ByteArray := prog_8_method_37_code
def yX6_refer : MethodName := ⟨RX6, "refer", "(IZ)V"⟩
abbrev cX6_makes : ByteArray := prog_8_method_38_code
def yX6_makes : MethodName := ⟨RX6, "makes", "(III)I"⟩
abbrev cX6_test : ByteArray := prog_8_method_39_code
def yX6_test : MethodName := ⟨RX6, "test", "(III)I"⟩
abbrev cX6_isFilter : ByteArray := prog_8_method_40_code
def yX6_isFilter : MethodName := ⟨RX6, "isFilter", "(I)Z"⟩
abbrev cX6_join : ByteArray := prog_8_method_41_code
def yX6_join : MethodName := ⟨RX6, "join", "(III)I"⟩
abbrev cX6_tested : ByteArray := prog_8_method_42_code
def yX6_tested : MethodName := ⟨RX6, "tested", "(II)I"⟩
abbrev cX6_both : ByteArray := prog_8_method_43_code
def yX6_both : MethodName := ⟨RX6, "both", "(II)I"⟩
abbrev cX6_not : ByteArray := prog_8_method_44_code
def yX6_not : MethodName := ⟨RX6, "not", "(I)I"⟩
abbrev cX6_filtered : ByteArray := prog_8_method_45_code
def yX6_filtered : MethodName := ⟨RX6, "filtered", "(II)I"⟩
abbrev cX6_holds : ByteArray := prog_8_method_46_code
def yX6_holds : MethodName := ⟨RX6, "holds", "(III)I"⟩
abbrev cX6_counted : ByteArray := prog_8_method_47_code
def yX6_counted : MethodName := ⟨RX6, "counted", "(II)I"⟩
abbrev cX6_rank : ByteArray := prog_8_method_48_code
def yX6_rank : MethodName := ⟨RX6, "rank", "(I)I"⟩
abbrev cX6_behind : ByteArray := prog_8_method_49_code
def yX6_behind : MethodName := ⟨RX6, "behind", "(II)I"⟩
abbrev cX6_goes : ByteArray := prog_8_method_50_code
def yX6_goes : MethodName := ⟨RX6, "goes", "(III)I"⟩
abbrev cX6_search : ByteArray := prog_8_method_51_code
def yX6_search : MethodName := ⟨RX6, "search", "(IIIIII)I"⟩
def RJx145de : String := "java/io/Serializable"
def TJx145de : u_T := fun k => match k with
  | _ => ("", "", "", false)
def tyJx145de : Nat → FieldType := fun k => match k with
  | _ => .int
abbrev wsJx145de0 : List Cond := u_ws RJx145de TJx145de 0
theorem nmJx145de : ∀ a, a < 0 → ∀ b, b < 0 → a ≠ b → (TJx145de a).2.1 ≠ (TJx145de b).2.1 := by decide +kernel
theorem tyJx145de_ok : ∀ k, k < 0 → parseFieldDescriptor (TJx145de k).2.2.1 = some (tyJx145de k) := by decide +kernel
def RJ0 : String := "java/lang/String"
def TJ0 : u_T := fun k => match k with
  | _ => ("", "", "", false)
def tyJ0 : Nat → FieldType := fun k => match k with
  | _ => .int
abbrev wsJ00 : List Cond := u_ws RJ0 TJ0 0
theorem nmJ0 : ∀ a, a < 0 → ∀ b, b < 0 → a ≠ b → (TJ0 a).2.1 ≠ (TJ0 b).2.1 := by decide +kernel
theorem tyJ0_ok : ∀ k, k < 0 → parseFieldDescriptor (TJ0 k).2.2.1 = some (tyJ0 k) := by decide +kernel
def RJ7 : String := "java/util/Arrays"
def TJ7 : u_T := fun k => match k with
  | _ => ("", "", "", false)
def tyJ7 : Nat → FieldType := fun k => match k with
  | _ => .int
abbrev wsJ70 : List Cond := u_ws RJ7 TJ7 0
theorem nmJ7 : ∀ a, a < 0 → ∀ b, b < 0 → a ≠ b → (TJ7 a).2.1 ≠ (TJ7 b).2.1 := by decide +kernel
theorem tyJ7_ok : ∀ k, k < 0 → parseFieldDescriptor (TJ7 k).2.2.1 = some (tyJ7 k) := by decide +kernel
abbrev cJ7_fill_53178 : ByteArray := prog_16_method_103_code
def yJ7_fill_53178 : MethodName := ⟨RJ7, "fill", "([II)V"⟩
def RL : String := "EntryMastersLaw"
abbrev cL_setClass : ByteArray := method_3_code
def yL_setClass : MethodName := ⟨RL, "setClass", "(LEntryMasters;III)I"⟩
abbrev cL_add : ByteArray := method_4_code
def yL_add : MethodName := ⟨RL, "add", "(LEntryMasters;IIII[J)I"⟩
abbrev cL_set : ByteArray := method_5_code
def yL_set : MethodName := ⟨RL, "set", "(LEntryMasters;IIII[J)I"⟩
abbrev cL_move : ByteArray := method_6_code
def yL_move : MethodName := ⟨RL, "move", "(LEntryMasters;IIII[J)I"⟩
abbrev cL_delete : ByteArray := method_7_code
def yL_delete : MethodName := ⟨RL, "delete", "(LEntryMasters;II[J)I"⟩
abbrev cL_carry : ByteArray := method_8_code
def yL_carry : MethodName := ⟨RL, "carry", "(LEntryMasters;II[J)I"⟩
abbrev cL_timeOf : ByteArray := method_9_code
def yL_timeOf : MethodName := ⟨RL, "timeOf", "(LEntryMasters;I[J)I"⟩
abbrev cL_entries : ByteArray := method_10_code
def yL_entries : MethodName := ⟨RL, "entries", "(LEntryMasters;I[J)I"⟩
abbrev cL_isThere : ByteArray := method_11_code
def yL_isThere : MethodName := ⟨RL, "isThere", "(LEntryMasters;II[J)I"⟩
abbrev cL_parentOf : ByteArray := method_12_code
def yL_parentOf : MethodName := ⟨RL, "parentOf", "(LEntryMasters;II[J)I"⟩
abbrev cL_labelOf : ByteArray := method_13_code
def yL_labelOf : MethodName := ⟨RL, "labelOf", "(LEntryMasters;II[J)I"⟩
abbrev cL_value : ByteArray := method_14_code
def yL_value : MethodName := ⟨RL, "value", "(LEntryMasters;III[J)I"⟩
abbrev cL_isWhole : ByteArray := method_15_code
def yL_isWhole : MethodName := ⟨RL, "isWhole", "(LEntryMasters;II[J)I"⟩
abbrev cL_find : ByteArray := method_16_code
def yL_find : MethodName := ⟨RL, "find", "(LEntryMasters;III[J)I"⟩
abbrev cL_setRight : ByteArray := method_17_code
def yL_setRight : MethodName := ⟨RL, "setRight", "(LEntryMasters;III)I"⟩
abbrev cL_refer : ByteArray := method_18_code
def yL_refer : MethodName := ⟨RL, "refer", "(LEntryMasters;IZ)I"⟩
abbrev cL_test : ByteArray := method_19_code
def yL_test : MethodName := ⟨RL, "test", "(LEntryMasters;III[J)I"⟩
abbrev cL_join : ByteArray := method_20_code
def yL_join : MethodName := ⟨RL, "join", "(LEntryMasters;III[J)I"⟩
abbrev cL_holds : ByteArray := method_21_code
def yL_holds : MethodName := ⟨RL, "holds", "(LEntryMasters;III[J)I"⟩
abbrev cL_search : ByteArray := method_22_code
def yL_search : MethodName := ⟨RL, "search", "(LEntryMasters;IIIIII[J)I"⟩
abbrev cL_law : ByteArray := code
def yL_law : MethodName := ⟨RL, "law", "([I)Z"⟩
def wsJ7_fill_53178 : List Cond := .code yJ7_fill_53178 cJ7_fill_53178 4 none :: ([])
def wsX0_init : List Cond := .code yX0_init cX0_init 1 none :: ([.methodLink RX0 3 objectInit, .instanceMethod objectInit, .code objectInit ⟨#[0xb1]⟩ 1 none, .arrayClass .int, .fieldLink RX0 9 "EntryMasters$Classes" "needed" "[I", .fieldLink RX0 15 "EntryMasters$Classes" "allowed" "[I", .methodLink RX0 18 yJ7_fill_53178, .static yJ7_fill_53178, .initialized RJ7, .code yJ7_fill_53178 cJ7_fill_53178 4 none] ++ wsX00)
def wsX5_put : List Cond := .code yX5_put cX5_put 3 none :: ([])
def wsX0_define : List Cond := .code yX0_define cX0_define 4 none :: ([.fieldLink RX0 9 "EntryMasters$Classes" "needed" "[I", .fieldLink RX0 15 "EntryMasters$Classes" "allowed" "[I", .static yX5_put, .initialized RX5, .code yX5_put cX5_put 3 none] ++ wsX00)
def wsX0_hasBit : List Cond := .code yX0_hasBit cX0_hasBit 2 (some .boolean) :: ([])
def wsX0_needs : List Cond := .code yX0_needs cX0_needs 3 (some .boolean) :: ([.fieldLink RX0 9 "EntryMasters$Classes" "needed" "[I", .methodLink RX0 28 yX0_hasBit, .static yX0_hasBit, .initialized RX0, .code yX0_hasBit cX0_hasBit 2 (some .boolean)] ++ wsX00)
def wsX0_allows : List Cond := .code yX0_allows cX0_allows 3 (some .boolean) :: ([.fieldLink RX0 15 "EntryMasters$Classes" "allowed" "[I", .methodLink RX0 28 yX0_hasBit, .static yX0_hasBit, .initialized RX0, .code yX0_hasBit cX0_hasBit 2 (some .boolean)] ++ wsX00)
def wsX1_init : List Cond := .code yX1_init cX1_init 1 none :: ([.methodLink RX1 3 objectInit, .instanceMethod objectInit, .code objectInit ⟨#[0xb1]⟩ 1 none, .arrayClass .int, .fieldLink RX1 9 "EntryMasters$Filters" "kinds" "[I", .fieldLink RX1 15 "EntryMasters$Filters" "firsts" "[I", .fieldLink RX1 18 "EntryMasters$Filters" "seconds" "[I", .fieldLink RX1 21 "EntryMasters$Filters" "truths" "[I"] ++ wsX10)
def wsX1_append : List Cond := .code yX1_append cX1_append 5 (some .int) :: ([.fieldLink RX1 24 "EntryMasters$Filters" "count" "I", .fieldLink RX1 9 "EntryMasters$Filters" "kinds" "[I", .fieldLink RX1 15 "EntryMasters$Filters" "firsts" "[I", .fieldLink RX1 18 "EntryMasters$Filters" "seconds" "[I", .static yX5_put, .initialized RX5, .code yX5_put cX5_put 3 none] ++ wsX10)
def wsX5_at : List Cond := .code yX5_at cX5_at 2 (some .int) :: ([])
def wsX4_mayHold : List Cond := .code yX4_mayHold cX4_mayHold 3 (some .boolean) :: ([.fieldLink RX4 39 "EntryMasters$Tree" "classes" "LEntryMasters$Classes;", .fieldLink RX4 25 "EntryMasters$Tree" "classesOfEntries" "[I", .static yX5_at, .initialized RX5, .code yX5_at cX5_at 2 (some .int), .methodLink RX4 134 yX0_allows, .instanceMethod yX0_allows, .selects RX0 yX0_allows yX0_allows, .initialized RX0, .code yX0_allows cX0_allows 3 (some .boolean), .fieldLink RX0 15 "EntryMasters$Classes" "allowed" "[I", .methodLink RX0 28 yX0_hasBit, .static yX0_hasBit, .code yX0_hasBit cX0_hasBit 2 (some .boolean)] ++ wsX40 ++ wsX00)
def wsX4_valueAt : List Cond := .code yX4_valueAt cX4_valueAt 3 (some .int) :: ([.fieldLink RX4 28 "EntryMasters$Tree" "values" "[I", .static yX5_at, .initialized RX5, .code yX5_at cX5_at 2 (some .int)] ++ wsX40)
def wsX1_truthOfTest : List Cond := .code yX1_truthOfTest cX1_truthOfTest 6 (some .int) :: ([.methodLink RX1 44 yX4_mayHold, .instanceMethod yX4_mayHold, .selects RX4 yX4_mayHold yX4_mayHold, .initialized RX4, .code yX4_mayHold cX4_mayHold 3 (some .boolean), .fieldLink RX4 39 "EntryMasters$Tree" "classes" "LEntryMasters$Classes;", .fieldLink RX4 25 "EntryMasters$Tree" "classesOfEntries" "[I", .static yX5_at, .initialized RX5, .code yX5_at cX5_at 2 (some .int), .methodLink RX4 134 yX0_allows, .instanceMethod yX0_allows, .selects RX0 yX0_allows yX0_allows, .initialized RX0, .code yX0_allows cX0_allows 3 (some .boolean), .fieldLink RX0 15 "EntryMasters$Classes" "allowed" "[I", .methodLink RX0 28 yX0_hasBit, .static yX0_hasBit, .code yX0_hasBit cX0_hasBit 2 (some .boolean), .methodLink RX1 50 yX4_valueAt, .instanceMethod yX4_valueAt, .selects RX4 yX4_valueAt yX4_valueAt, .code yX4_valueAt cX4_valueAt 3 (some .int), .fieldLink RX4 28 "EntryMasters$Tree" "values" "[I"] ++ wsX40 ++ wsX00)
def wsX1_both : List Cond := .code yX1_both cX1_both 2 (some .int) :: ([])
def wsX1_opposite : List Cond := .code yX1_opposite cX1_opposite 1 (some .int) :: ([])
def wsX1_truthOfJoin : List Cond := .code yX1_truthOfJoin cX1_truthOfJoin 3 (some .int) :: ([.methodLink RX1 54 yX1_both, .static yX1_both, .initialized RX1, .code yX1_both cX1_both 2 (some .int), .methodLink RX1 57 yX1_opposite, .static yX1_opposite, .code yX1_opposite cX1_opposite 1 (some .int)])
def wsX1_truthFor_r1 : List Cond := [Cond.fieldLink RX1 9 "EntryMasters$Filters" "kinds" "[I", Cond.fieldLink RX1 15 "EntryMasters$Filters" "firsts" "[I", Cond.fieldLink RX1 18 "EntryMasters$Filters" "seconds" "[I", Cond.fieldLink RX1 21 "EntryMasters$Filters" "truths" "[I", Cond.methodLink RX1 32 yX1_truthOfTest, Cond.static yX1_truthOfTest, Cond.initialized RX1, Cond.code yX1_truthOfTest cX1_truthOfTest 6 (some .int), Cond.methodLink RX1 44 yX4_mayHold, Cond.instanceMethod yX4_mayHold, Cond.selects RX4 yX4_mayHold yX4_mayHold, Cond.initialized RX4, Cond.code yX4_mayHold cX4_mayHold 3 (some .boolean), Cond.fieldLink RX4 39 "EntryMasters$Tree" "classes" "LEntryMasters$Classes;", Cond.fieldLink RX4 25 "EntryMasters$Tree" "classesOfEntries" "[I", Cond.static yX5_at, Cond.initialized RX5, Cond.code yX5_at cX5_at 2 (some .int), Cond.methodLink RX4 134 yX0_allows, Cond.instanceMethod yX0_allows, Cond.selects RX0 yX0_allows yX0_allows, Cond.initialized RX0, Cond.code yX0_allows cX0_allows 3 (some .boolean), Cond.fieldLink RX0 15 "EntryMasters$Classes" "allowed" "[I"]
def wsX1_truthFor_r2 : List Cond := [Cond.methodLink RX0 28 yX0_hasBit, Cond.static yX0_hasBit, Cond.code yX0_hasBit cX0_hasBit 2 (some .boolean), Cond.methodLink RX1 50 yX4_valueAt, Cond.instanceMethod yX4_valueAt, Cond.selects RX4 yX4_valueAt yX4_valueAt, Cond.code yX4_valueAt cX4_valueAt 3 (some .int), Cond.fieldLink RX4 28 "EntryMasters$Tree" "values" "[I", Cond.methodLink RX1 40 yX1_truthOfJoin, Cond.static yX1_truthOfJoin, Cond.code yX1_truthOfJoin cX1_truthOfJoin 3 (some .int), Cond.methodLink RX1 54 yX1_both, Cond.static yX1_both, Cond.code yX1_both cX1_both 2 (some .int), Cond.methodLink RX1 57 yX1_opposite, Cond.static yX1_opposite, Cond.code yX1_opposite cX1_opposite 1 (some .int)]
def wsX1_truthFor : List Cond := .code yX1_truthFor cX1_truthFor 8 (some .int) :: ((wsX1_truthFor_r1 ++ wsX1_truthFor_r2) ++ wsX10 ++ wsX40 ++ wsX00)
def wsX2_init : List Cond := .code yX2_init cX2_init 1 none :: ([.methodLink RX2 3 objectInit, .instanceMethod objectInit, .code objectInit ⟨#[0xb1]⟩ 1 none, .arrayClass .int, .fieldLink RX2 9 "EntryMasters$Log" "kinds" "[I", .fieldLink RX2 15 "EntryMasters$Log" "stamps" "[I", .fieldLink RX2 18 "EntryMasters$Log" "entries" "[I", .fieldLink RX2 21 "EntryMasters$Log" "targets" "[I", .fieldLink RX2 24 "EntryMasters$Log" "contents" "[I", .fieldLink RX2 27 "EntryMasters$Log" "classesOfAdded" "[I"] ++ wsX20)
def wsX2_append : List Cond := .code yX2_append cX2_append 8 (some .int) :: ([.fieldLink RX2 30 "EntryMasters$Log" "count" "I", .fieldLink RX2 9 "EntryMasters$Log" "kinds" "[I", .fieldLink RX2 15 "EntryMasters$Log" "stamps" "[I", .fieldLink RX2 18 "EntryMasters$Log" "entries" "[I", .fieldLink RX2 21 "EntryMasters$Log" "targets" "[I", .fieldLink RX2 24 "EntryMasters$Log" "contents" "[I", .fieldLink RX2 27 "EntryMasters$Log" "classesOfAdded" "[I", .static yX5_put, .initialized RX5, .code yX5_put cX5_put 3 none] ++ wsX20)
def wsX2_stampFrom : List Cond := .code yX2_stampFrom cX2_stampFrom 2 (some .int) :: ([])
def wsX2_stampAt : List Cond := .code yX2_stampAt cX2_stampAt 2 (some .int) :: ([.fieldLink RX2 15 "EntryMasters$Log" "stamps" "[I", .static yX5_at, .initialized RX5, .code yX5_at cX5_at 2 (some .int)] ++ wsX20)
def wsX2_timeAt : List Cond := .code yX2_timeAt cX2_timeAt 2 (some .int) :: ([.fieldLink RX2 15 "EntryMasters$Log" "stamps" "[I", .static yX5_at, .initialized RX5, .code yX5_at cX5_at 2 (some .int)] ++ wsX20)
def wsX3_init : List Cond := .code yX3_init cX3_init 1 none :: ([.methodLink RX3 3 objectInit, .instanceMethod objectInit, .code objectInit ⟨#[0xb1]⟩ 1 none, .arrayClass .int, .fieldLink RX3 9 "EntryMasters$Marks" "rights" "[I", .arrayClass .boolean, .fieldLink RX3 15 "EntryMasters$Marks" "referrals" "[Z", .methodLink RX3 19 yJ7_fill_53178, .static yJ7_fill_53178, .initialized RJ7, .code yJ7_fill_53178 cJ7_fill_53178 4 none] ++ wsX30)
def wsX3_putRight : List Cond := .code yX3_putRight cX3_putRight 4 none :: ([.fieldLink RX3 9 "EntryMasters$Marks" "rights" "[I", .static yX5_put, .initialized RX5, .code yX5_put cX5_put 3 none] ++ wsX30)
def wsX3_putReferral : List Cond := .code yX3_putReferral cX3_putReferral 3 none :: ([.fieldLink RX3 15 "EntryMasters$Marks" "referrals" "[Z"] ++ wsX30)
def wsX3_isReferral : List Cond := .code yX3_isReferral cX3_isReferral 2 (some .boolean) :: ([.fieldLink RX3 15 "EntryMasters$Marks" "referrals" "[Z"] ++ wsX30)
def wsX4_parentAt : List Cond := .code yX4_parentAt cX4_parentAt 2 (some .int) :: ([.fieldLink RX4 19 "EntryMasters$Tree" "parents" "[I", .static yX5_at, .initialized RX5, .code yX5_at cX5_at 2 (some .int)] ++ wsX40)
def wsX3_rightThatCounts : List Cond := .code yX3_rightThatCounts cX3_rightThatCounts 7 (some .int) :: ([.fieldLink RX3 9 "EntryMasters$Marks" "rights" "[I", .static yX5_at, .initialized RX5, .code yX5_at cX5_at 2 (some .int), .methodLink RX3 33 yX4_parentAt, .instanceMethod yX4_parentAt, .selects RX4 yX4_parentAt yX4_parentAt, .initialized RX4, .code yX4_parentAt cX4_parentAt 2 (some .int), .fieldLink RX4 19 "EntryMasters$Tree" "parents" "[I"] ++ wsX30 ++ wsX40)
def wsX4_clear : List Cond := .code yX4_clear cX4_clear 2 none :: ([.fieldLink RX4 15 "EntryMasters$Tree" "there" "[Z", .fieldLink RX4 19 "EntryMasters$Tree" "parents" "[I", .fieldLink RX4 22 "EntryMasters$Tree" "labels" "[I", .fieldLink RX4 25 "EntryMasters$Tree" "classesOfEntries" "[I", .fieldLink RX4 28 "EntryMasters$Tree" "values" "[I", .fieldLink RX4 52 "EntryMasters$Tree" "size" "I", .methodLink RX4 46 yJ7_fill_53178, .static yJ7_fill_53178, .initialized RJ7, .code yJ7_fill_53178 cJ7_fill_53178 4 none] ++ wsX40)
def wsX4_init : List Cond := .code yX4_init cX4_init 4 none :: ([.methodLink RX4 3 objectInit, .instanceMethod objectInit, .code objectInit ⟨#[0xb1]⟩ 1 none, .arrayClass .int, .fieldLink RX4 9 "EntryMasters$Tree" "known" "[I", .arrayClass .boolean, .fieldLink RX4 15 "EntryMasters$Tree" "there" "[Z", .fieldLink RX4 19 "EntryMasters$Tree" "parents" "[I", .fieldLink RX4 22 "EntryMasters$Tree" "labels" "[I", .fieldLink RX4 25 "EntryMasters$Tree" "classesOfEntries" "[I", .fieldLink RX4 28 "EntryMasters$Tree" "values" "[I", .fieldLink RX4 31 "EntryMasters$Tree" "master" "I", .fieldLink RX4 35 "EntryMasters$Tree" "log" "LEntryMasters$Log;", .fieldLink RX4 39 "EntryMasters$Tree" "classes" "LEntryMasters$Classes;", .methodLink RX4 43 yX4_clear, .instanceMethod yX4_clear, .selects RX4 yX4_clear yX4_clear, .initialized RX4, .code yX4_clear cX4_clear 2 none, .fieldLink RX4 52 "EntryMasters$Tree" "size" "I", .methodLink RX4 46 yJ7_fill_53178, .static yJ7_fill_53178, .initialized RJ7, .code yJ7_fill_53178 cJ7_fill_53178 4 none] ++ wsX40)
def wsX4_knows : List Cond := .code yX4_knows cX4_knows 3 (some .boolean) :: ([.fieldLink RX4 55 "EntryMasters$Tree" "knownCount" "I", .fieldLink RX4 9 "EntryMasters$Tree" "known" "[I"] ++ wsX40)
def wsX4_stampOfNext : List Cond := .code yX4_stampOfNext cX4_stampOfNext 2 (some .int) :: ([.fieldLink RX4 55 "EntryMasters$Tree" "knownCount" "I", .fieldLink RX4 35 "EntryMasters$Tree" "log" "LEntryMasters$Log;", .fieldLink RX4 9 "EntryMasters$Tree" "known" "[I", .fieldLink RX4 31 "EntryMasters$Tree" "master" "I", .static yX5_at, .initialized RX5, .code yX5_at cX5_at 2 (some .int), .methodLink RX4 62 yX2_timeAt, .instanceMethod yX2_timeAt, .selects RX2 yX2_timeAt yX2_timeAt, .initialized RX2, .code yX2_timeAt cX2_timeAt 2 (some .int), .fieldLink RX2 15 "EntryMasters$Log" "stamps" "[I", .methodLink RX4 68 yX2_stampFrom, .static yX2_stampFrom, .code yX2_stampFrom cX2_stampFrom 2 (some .int)] ++ wsX40 ++ wsX20)
def wsX4_putInOrder : List Cond := .code yX4_putInOrder cX4_putInOrder 3 (some .int) :: ([.fieldLink RX4 55 "EntryMasters$Tree" "knownCount" "I", .fieldLink RX4 35 "EntryMasters$Tree" "log" "LEntryMasters$Log;", .fieldLink RX4 9 "EntryMasters$Tree" "known" "[I", .static yX5_at, .initialized RX5, .code yX5_at cX5_at 2 (some .int), .methodLink RX4 79 yX2_stampAt, .instanceMethod yX2_stampAt, .selects RX2 yX2_stampAt yX2_stampAt, .initialized RX2, .code yX2_stampAt cX2_stampAt 2 (some .int), .fieldLink RX2 15 "EntryMasters$Log" "stamps" "[I", .static yX5_put, .code yX5_put cX5_put 3 none] ++ wsX40 ++ wsX20)
def wsX4_has : List Cond := .code yX4_has cX4_has 2 (some .boolean) :: ([.fieldLink RX4 15 "EntryMasters$Tree" "there" "[Z"] ++ wsX40)
def wsX4_areLike : List Cond := .code yX4_areLike cX4_areLike 2 (some .boolean) :: ([])
def wsX4_childWithLabelLike : List Cond := .code yX4_childWithLabelLike cX4_childWithLabelLike 5 (some .int) :: ([.fieldLink RX4 19 "EntryMasters$Tree" "parents" "[I", .fieldLink RX4 22 "EntryMasters$Tree" "labels" "[I", .methodLink RX4 148 yX4_areLike, .static yX4_areLike, .initialized RX4, .code yX4_areLike cX4_areLike 2 (some .boolean)] ++ wsX40)
def wsX4_settle : List Cond := .code yX4_settle cX4_settle 4 none :: ([.fieldLink RX4 22 "EntryMasters$Tree" "labels" "[I", .fieldLink RX4 19 "EntryMasters$Tree" "parents" "[I", .methodLink RX4 119 yX4_has, .instanceMethod yX4_has, .selects RX4 yX4_has yX4_has, .initialized RX4, .code yX4_has cX4_has 2 (some .boolean), .fieldLink RX4 15 "EntryMasters$Tree" "there" "[Z", .methodLink RX4 130 yX4_childWithLabelLike, .instanceMethod yX4_childWithLabelLike, .selects RX4 yX4_childWithLabelLike yX4_childWithLabelLike, .code yX4_childWithLabelLike cX4_childWithLabelLike 5 (some .int), .methodLink RX4 148 yX4_areLike, .static yX4_areLike, .code yX4_areLike cX4_areLike 2 (some .boolean)] ++ wsX40)
def wsX4_performAdding : List Cond := .code yX4_performAdding cX4_performAdding 5 none :: ([.fieldLink RX4 15 "EntryMasters$Tree" "there" "[Z", .fieldLink RX4 22 "EntryMasters$Tree" "labels" "[I", .fieldLink RX4 25 "EntryMasters$Tree" "classesOfEntries" "[I", .fieldLink RX4 52 "EntryMasters$Tree" "size" "I", .methodLink RX4 115 yX4_settle, .instanceMethod yX4_settle, .selects RX4 yX4_settle yX4_settle, .initialized RX4, .code yX4_settle cX4_settle 4 none, .fieldLink RX4 19 "EntryMasters$Tree" "parents" "[I", .methodLink RX4 119 yX4_has, .instanceMethod yX4_has, .selects RX4 yX4_has yX4_has, .code yX4_has cX4_has 2 (some .boolean), .methodLink RX4 130 yX4_childWithLabelLike, .instanceMethod yX4_childWithLabelLike, .selects RX4 yX4_childWithLabelLike yX4_childWithLabelLike, .code yX4_childWithLabelLike cX4_childWithLabelLike 5 (some .int), .methodLink RX4 148 yX4_areLike, .static yX4_areLike, .code yX4_areLike cX4_areLike 2 (some .boolean)] ++ wsX40)
def wsX4_performSetting_r1 : List Cond := [Cond.fieldLink RX4 28 "EntryMasters$Tree" "values" "[I", Cond.methodLink RX4 119 yX4_has, Cond.instanceMethod yX4_has, Cond.selects RX4 yX4_has yX4_has, Cond.initialized RX4, Cond.code yX4_has cX4_has 2 (some .boolean), Cond.fieldLink RX4 15 "EntryMasters$Tree" "there" "[Z", Cond.methodLink RX4 123 yX4_mayHold, Cond.instanceMethod yX4_mayHold, Cond.selects RX4 yX4_mayHold yX4_mayHold, Cond.code yX4_mayHold cX4_mayHold 3 (some .boolean), Cond.fieldLink RX4 39 "EntryMasters$Tree" "classes" "LEntryMasters$Classes;", Cond.fieldLink RX4 25 "EntryMasters$Tree" "classesOfEntries" "[I", Cond.static yX5_at, Cond.initialized RX5, Cond.code yX5_at cX5_at 2 (some .int), Cond.methodLink RX4 134 yX0_allows, Cond.instanceMethod yX0_allows, Cond.selects RX0 yX0_allows yX0_allows, Cond.initialized RX0, Cond.code yX0_allows cX0_allows 3 (some .boolean), Cond.fieldLink RX0 15 "EntryMasters$Classes" "allowed" "[I", Cond.methodLink RX0 28 yX0_hasBit, Cond.static yX0_hasBit]
def wsX4_performSetting_r2 : List Cond := [Cond.code yX0_hasBit cX0_hasBit 2 (some .boolean), Cond.static yX5_put, Cond.code yX5_put cX5_put 3 none]
def wsX4_performSetting : List Cond := .code yX4_performSetting cX4_performSetting 4 none :: ((wsX4_performSetting_r1 ++ wsX4_performSetting_r2) ++ wsX40 ++ wsX00)
def wsX4_isAtOrBelow : List Cond := .code yX4_isAtOrBelow cX4_isAtOrBelow 5 (some .boolean) :: ([.methodLink RX4 145 yX4_parentAt, .instanceMethod yX4_parentAt, .selects RX4 yX4_parentAt yX4_parentAt, .initialized RX4, .code yX4_parentAt cX4_parentAt 2 (some .int), .fieldLink RX4 19 "EntryMasters$Tree" "parents" "[I", .static yX5_at, .initialized RX5, .code yX5_at cX5_at 2 (some .int)] ++ wsX40)
def wsX4_performMoving_r1 : List Cond := [Cond.fieldLink RX4 22 "EntryMasters$Tree" "labels" "[I", Cond.methodLink RX4 119 yX4_has, Cond.instanceMethod yX4_has, Cond.selects RX4 yX4_has yX4_has, Cond.initialized RX4, Cond.code yX4_has cX4_has 2 (some .boolean), Cond.fieldLink RX4 15 "EntryMasters$Tree" "there" "[Z", Cond.methodLink RX4 127 yX4_isAtOrBelow, Cond.instanceMethod yX4_isAtOrBelow, Cond.selects RX4 yX4_isAtOrBelow yX4_isAtOrBelow, Cond.code yX4_isAtOrBelow cX4_isAtOrBelow 5 (some .boolean), Cond.methodLink RX4 145 yX4_parentAt, Cond.instanceMethod yX4_parentAt, Cond.selects RX4 yX4_parentAt yX4_parentAt, Cond.code yX4_parentAt cX4_parentAt 2 (some .int), Cond.fieldLink RX4 19 "EntryMasters$Tree" "parents" "[I", Cond.static yX5_at, Cond.initialized RX5, Cond.code yX5_at cX5_at 2 (some .int), Cond.methodLink RX4 115 yX4_settle, Cond.instanceMethod yX4_settle, Cond.selects RX4 yX4_settle yX4_settle, Cond.code yX4_settle cX4_settle 4 none, Cond.methodLink RX4 130 yX4_childWithLabelLike]
def wsX4_performMoving_r2 : List Cond := [Cond.instanceMethod yX4_childWithLabelLike, Cond.selects RX4 yX4_childWithLabelLike yX4_childWithLabelLike, Cond.code yX4_childWithLabelLike cX4_childWithLabelLike 5 (some .int), Cond.methodLink RX4 148 yX4_areLike, Cond.static yX4_areLike, Cond.code yX4_areLike cX4_areLike 2 (some .boolean)]
def wsX4_performMoving : List Cond := .code yX4_performMoving cX4_performMoving 4 none :: ((wsX4_performMoving_r1 ++ wsX4_performMoving_r2) ++ wsX40)
def wsX4_performDeleting : List Cond := .code yX4_performDeleting cX4_performDeleting 3 none :: ([.fieldLink RX4 15 "EntryMasters$Tree" "there" "[Z", .fieldLink RX4 19 "EntryMasters$Tree" "parents" "[I", .fieldLink RX4 52 "EntryMasters$Tree" "size" "I", .methodLink RX4 119 yX4_has, .instanceMethod yX4_has, .selects RX4 yX4_has yX4_has, .initialized RX4, .code yX4_has cX4_has 2 (some .boolean), .methodLink RX4 115 yX4_settle, .instanceMethod yX4_settle, .selects RX4 yX4_settle yX4_settle, .code yX4_settle cX4_settle 4 none, .fieldLink RX4 22 "EntryMasters$Tree" "labels" "[I", .methodLink RX4 130 yX4_childWithLabelLike, .instanceMethod yX4_childWithLabelLike, .selects RX4 yX4_childWithLabelLike yX4_childWithLabelLike, .code yX4_childWithLabelLike cX4_childWithLabelLike 5 (some .int), .methodLink RX4 148 yX4_areLike, .static yX4_areLike, .code yX4_areLike cX4_areLike 2 (some .boolean)] ++ wsX40)
def wsX4_perform_r1 : List Cond := [Cond.fieldLink RX4 35 "EntryMasters$Tree" "log" "LEntryMasters$Log;", Cond.static yX5_at, Cond.initialized RX5, Cond.code yX5_at cX5_at 2 (some .int), Cond.methodLink RX4 101 yX4_performAdding, Cond.instanceMethod yX4_performAdding, Cond.selects RX4 yX4_performAdding yX4_performAdding, Cond.initialized RX4, Cond.code yX4_performAdding cX4_performAdding 5 none, Cond.fieldLink RX4 15 "EntryMasters$Tree" "there" "[Z", Cond.fieldLink RX4 22 "EntryMasters$Tree" "labels" "[I", Cond.fieldLink RX4 25 "EntryMasters$Tree" "classesOfEntries" "[I", Cond.fieldLink RX4 52 "EntryMasters$Tree" "size" "I", Cond.methodLink RX4 115 yX4_settle, Cond.instanceMethod yX4_settle, Cond.selects RX4 yX4_settle yX4_settle, Cond.code yX4_settle cX4_settle 4 none, Cond.fieldLink RX4 19 "EntryMasters$Tree" "parents" "[I", Cond.methodLink RX4 119 yX4_has, Cond.instanceMethod yX4_has, Cond.selects RX4 yX4_has yX4_has, Cond.code yX4_has cX4_has 2 (some .boolean), Cond.methodLink RX4 130 yX4_childWithLabelLike, Cond.instanceMethod yX4_childWithLabelLike]
def wsX4_perform_r2 : List Cond := [Cond.selects RX4 yX4_childWithLabelLike yX4_childWithLabelLike, Cond.code yX4_childWithLabelLike cX4_childWithLabelLike 5 (some .int), Cond.methodLink RX4 148 yX4_areLike, Cond.static yX4_areLike, Cond.code yX4_areLike cX4_areLike 2 (some .boolean), Cond.methodLink RX4 105 yX4_performSetting, Cond.instanceMethod yX4_performSetting, Cond.selects RX4 yX4_performSetting yX4_performSetting, Cond.code yX4_performSetting cX4_performSetting 4 none, Cond.fieldLink RX4 28 "EntryMasters$Tree" "values" "[I", Cond.methodLink RX4 123 yX4_mayHold, Cond.instanceMethod yX4_mayHold, Cond.selects RX4 yX4_mayHold yX4_mayHold, Cond.code yX4_mayHold cX4_mayHold 3 (some .boolean), Cond.fieldLink RX4 39 "EntryMasters$Tree" "classes" "LEntryMasters$Classes;", Cond.methodLink RX4 134 yX0_allows, Cond.instanceMethod yX0_allows, Cond.selects RX0 yX0_allows yX0_allows, Cond.initialized RX0, Cond.code yX0_allows cX0_allows 3 (some .boolean), Cond.fieldLink RX0 15 "EntryMasters$Classes" "allowed" "[I", Cond.methodLink RX0 28 yX0_hasBit, Cond.static yX0_hasBit, Cond.code yX0_hasBit cX0_hasBit 2 (some .boolean)]
def wsX4_perform_r3 : List Cond := [Cond.static yX5_put, Cond.code yX5_put cX5_put 3 none, Cond.methodLink RX4 109 yX4_performMoving, Cond.instanceMethod yX4_performMoving, Cond.selects RX4 yX4_performMoving yX4_performMoving, Cond.code yX4_performMoving cX4_performMoving 4 none, Cond.methodLink RX4 127 yX4_isAtOrBelow, Cond.instanceMethod yX4_isAtOrBelow, Cond.selects RX4 yX4_isAtOrBelow yX4_isAtOrBelow, Cond.code yX4_isAtOrBelow cX4_isAtOrBelow 5 (some .boolean), Cond.methodLink RX4 145 yX4_parentAt, Cond.instanceMethod yX4_parentAt, Cond.selects RX4 yX4_parentAt yX4_parentAt, Cond.code yX4_parentAt cX4_parentAt 2 (some .int), Cond.methodLink RX4 112 yX4_performDeleting, Cond.instanceMethod yX4_performDeleting, Cond.selects RX4 yX4_performDeleting yX4_performDeleting, Cond.code yX4_performDeleting cX4_performDeleting 3 none]
def wsX4_perform : List Cond := .code yX4_perform cX4_perform 5 none :: ((wsX4_perform_r1 ++ (wsX4_perform_r2 ++ wsX4_perform_r3)) ++ wsX40 ++ wsX20 ++ wsX00)
def wsX4_learn_r1 : List Cond := [Cond.fieldLink RX4 55 "EntryMasters$Tree" "knownCount" "I", Cond.fieldLink RX4 9 "EntryMasters$Tree" "known" "[I", Cond.methodLink RX4 72 yX4_putInOrder, Cond.instanceMethod yX4_putInOrder, Cond.selects RX4 yX4_putInOrder yX4_putInOrder, Cond.initialized RX4, Cond.code yX4_putInOrder cX4_putInOrder 3 (some .int), Cond.fieldLink RX4 35 "EntryMasters$Tree" "log" "LEntryMasters$Log;", Cond.static yX5_at, Cond.initialized RX5, Cond.code yX5_at cX5_at 2 (some .int), Cond.methodLink RX4 79 yX2_stampAt, Cond.instanceMethod yX2_stampAt, Cond.selects RX2 yX2_stampAt yX2_stampAt, Cond.initialized RX2, Cond.code yX2_stampAt cX2_stampAt 2 (some .int), Cond.fieldLink RX2 15 "EntryMasters$Log" "stamps" "[I", Cond.static yX5_put, Cond.code yX5_put cX5_put 3 none, Cond.methodLink RX4 43 yX4_clear, Cond.instanceMethod yX4_clear, Cond.selects RX4 yX4_clear yX4_clear, Cond.code yX4_clear cX4_clear 2 none, Cond.fieldLink RX4 15 "EntryMasters$Tree" "there" "[Z"]
def wsX4_learn_r2 : List Cond := [Cond.fieldLink RX4 19 "EntryMasters$Tree" "parents" "[I", Cond.fieldLink RX4 22 "EntryMasters$Tree" "labels" "[I", Cond.fieldLink RX4 25 "EntryMasters$Tree" "classesOfEntries" "[I", Cond.fieldLink RX4 28 "EntryMasters$Tree" "values" "[I", Cond.fieldLink RX4 52 "EntryMasters$Tree" "size" "I", Cond.methodLink RX4 46 yJ7_fill_53178, Cond.static yJ7_fill_53178, Cond.initialized RJ7, Cond.code yJ7_fill_53178 cJ7_fill_53178 4 none, Cond.methodLink RX4 75 yX4_perform, Cond.instanceMethod yX4_perform, Cond.selects RX4 yX4_perform yX4_perform, Cond.code yX4_perform cX4_perform 5 none, Cond.methodLink RX4 101 yX4_performAdding, Cond.instanceMethod yX4_performAdding, Cond.selects RX4 yX4_performAdding yX4_performAdding, Cond.code yX4_performAdding cX4_performAdding 5 none, Cond.methodLink RX4 115 yX4_settle, Cond.instanceMethod yX4_settle, Cond.selects RX4 yX4_settle yX4_settle, Cond.code yX4_settle cX4_settle 4 none, Cond.methodLink RX4 119 yX4_has, Cond.instanceMethod yX4_has, Cond.selects RX4 yX4_has yX4_has]
def wsX4_learn_r3 : List Cond := [Cond.code yX4_has cX4_has 2 (some .boolean), Cond.methodLink RX4 130 yX4_childWithLabelLike, Cond.instanceMethod yX4_childWithLabelLike, Cond.selects RX4 yX4_childWithLabelLike yX4_childWithLabelLike, Cond.code yX4_childWithLabelLike cX4_childWithLabelLike 5 (some .int), Cond.methodLink RX4 148 yX4_areLike, Cond.static yX4_areLike, Cond.code yX4_areLike cX4_areLike 2 (some .boolean), Cond.methodLink RX4 105 yX4_performSetting, Cond.instanceMethod yX4_performSetting, Cond.selects RX4 yX4_performSetting yX4_performSetting, Cond.code yX4_performSetting cX4_performSetting 4 none, Cond.methodLink RX4 123 yX4_mayHold, Cond.instanceMethod yX4_mayHold, Cond.selects RX4 yX4_mayHold yX4_mayHold, Cond.code yX4_mayHold cX4_mayHold 3 (some .boolean), Cond.fieldLink RX4 39 "EntryMasters$Tree" "classes" "LEntryMasters$Classes;", Cond.methodLink RX4 134 yX0_allows, Cond.instanceMethod yX0_allows, Cond.selects RX0 yX0_allows yX0_allows, Cond.initialized RX0, Cond.code yX0_allows cX0_allows 3 (some .boolean), Cond.fieldLink RX0 15 "EntryMasters$Classes" "allowed" "[I", Cond.methodLink RX0 28 yX0_hasBit]
def wsX4_learn_r4 : List Cond := [Cond.static yX0_hasBit, Cond.code yX0_hasBit cX0_hasBit 2 (some .boolean), Cond.methodLink RX4 109 yX4_performMoving, Cond.instanceMethod yX4_performMoving, Cond.selects RX4 yX4_performMoving yX4_performMoving, Cond.code yX4_performMoving cX4_performMoving 4 none, Cond.methodLink RX4 127 yX4_isAtOrBelow, Cond.instanceMethod yX4_isAtOrBelow, Cond.selects RX4 yX4_isAtOrBelow yX4_isAtOrBelow, Cond.code yX4_isAtOrBelow cX4_isAtOrBelow 5 (some .boolean), Cond.methodLink RX4 145 yX4_parentAt, Cond.instanceMethod yX4_parentAt, Cond.selects RX4 yX4_parentAt yX4_parentAt, Cond.code yX4_parentAt cX4_parentAt 2 (some .int), Cond.methodLink RX4 112 yX4_performDeleting, Cond.instanceMethod yX4_performDeleting, Cond.selects RX4 yX4_performDeleting yX4_performDeleting, Cond.code yX4_performDeleting cX4_performDeleting 3 none]
def wsX4_learn : List Cond := .code yX4_learn cX4_learn 3 none :: ((wsX4_learn_r1 ++ (wsX4_learn_r2 ++ (wsX4_learn_r3 ++ wsX4_learn_r4))) ++ wsX40 ++ wsX20 ++ wsX00)
def wsX4_labelAt : List Cond := .code yX4_labelAt cX4_labelAt 2 (some .int) :: ([.fieldLink RX4 22 "EntryMasters$Tree" "labels" "[I", .static yX5_at, .initialized RX5, .code yX5_at cX5_at 2 (some .int)] ++ wsX40)
def wsX4_hasAllNeeded : List Cond := .code yX4_hasAllNeeded cX4_hasAllNeeded 4 (some .boolean) :: ([.fieldLink RX4 25 "EntryMasters$Tree" "classesOfEntries" "[I", .fieldLink RX4 39 "EntryMasters$Tree" "classes" "LEntryMasters$Classes;", .static yX5_at, .initialized RX5, .code yX5_at cX5_at 2 (some .int), .methodLink RX4 139 yX0_needs, .instanceMethod yX0_needs, .selects RX0 yX0_needs yX0_needs, .initialized RX0, .code yX0_needs cX0_needs 3 (some .boolean), .fieldLink RX0 9 "EntryMasters$Classes" "needed" "[I", .methodLink RX0 28 yX0_hasBit, .static yX0_hasBit, .code yX0_hasBit cX0_hasBit 2 (some .boolean), .methodLink RX4 142 yX4_valueAt, .instanceMethod yX4_valueAt, .selects RX4 yX4_valueAt yX4_valueAt, .initialized RX4, .code yX4_valueAt cX4_valueAt 3 (some .int), .fieldLink RX4 28 "EntryMasters$Tree" "values" "[I"] ++ wsX40 ++ wsX00)
def wsX4_hasChild : List Cond := .code yX4_hasChild cX4_hasChild 3 (some .boolean) :: ([.fieldLink RX4 19 "EntryMasters$Tree" "parents" "[I"] ++ wsX40)
def wsX4_hasSameEntry : List Cond := .code yX4_hasSameEntry cX4_hasSameEntry 4 (some .boolean) :: ([.fieldLink RX4 25 "EntryMasters$Tree" "classesOfEntries" "[I", .methodLink RX4 142 yX4_valueAt, .instanceMethod yX4_valueAt, .selects RX4 yX4_valueAt yX4_valueAt, .initialized RX4, .code yX4_valueAt cX4_valueAt 3 (some .int), .fieldLink RX4 28 "EntryMasters$Tree" "values" "[I", .static yX5_at, .initialized RX5, .code yX5_at cX5_at 2 (some .int), .methodLink RX4 145 yX4_parentAt, .instanceMethod yX4_parentAt, .selects RX4 yX4_parentAt yX4_parentAt, .code yX4_parentAt cX4_parentAt 2 (some .int), .fieldLink RX4 19 "EntryMasters$Tree" "parents" "[I", .methodLink RX4 155 yX4_labelAt, .instanceMethod yX4_labelAt, .selects RX4 yX4_labelAt yX4_labelAt, .code yX4_labelAt cX4_labelAt 2 (some .int), .fieldLink RX4 22 "EntryMasters$Tree" "labels" "[I"] ++ wsX40)
def wsX4_isSameAs_r1 : List Cond := [Cond.fieldLink RX4 15 "EntryMasters$Tree" "there" "[Z", Cond.methodLink RX4 151 yX4_hasSameEntry, Cond.instanceMethod yX4_hasSameEntry, Cond.selects RX4 yX4_hasSameEntry yX4_hasSameEntry, Cond.initialized RX4, Cond.code yX4_hasSameEntry cX4_hasSameEntry 4 (some .boolean), Cond.fieldLink RX4 25 "EntryMasters$Tree" "classesOfEntries" "[I", Cond.methodLink RX4 142 yX4_valueAt, Cond.instanceMethod yX4_valueAt, Cond.selects RX4 yX4_valueAt yX4_valueAt, Cond.code yX4_valueAt cX4_valueAt 3 (some .int), Cond.fieldLink RX4 28 "EntryMasters$Tree" "values" "[I", Cond.static yX5_at, Cond.initialized RX5, Cond.code yX5_at cX5_at 2 (some .int), Cond.methodLink RX4 145 yX4_parentAt, Cond.instanceMethod yX4_parentAt, Cond.selects RX4 yX4_parentAt yX4_parentAt, Cond.code yX4_parentAt cX4_parentAt 2 (some .int), Cond.fieldLink RX4 19 "EntryMasters$Tree" "parents" "[I", Cond.methodLink RX4 155 yX4_labelAt, Cond.instanceMethod yX4_labelAt, Cond.selects RX4 yX4_labelAt yX4_labelAt, Cond.code yX4_labelAt cX4_labelAt 2 (some .int)]
def wsX4_isSameAs_r2 : List Cond := [Cond.fieldLink RX4 22 "EntryMasters$Tree" "labels" "[I"]
def wsX4_isSameAs : List Cond := .code yX4_isSameAs cX4_isSameAs 3 (some .boolean) :: ((wsX4_isSameAs_r1 ++ wsX4_isSameAs_r2) ++ wsX40)
def wsX4_orderUnderParent : List Cond := .code yX4_orderUnderParent cX4_orderUnderParent 3 (some .int) :: ([.methodLink RX4 155 yX4_labelAt, .instanceMethod yX4_labelAt, .selects RX4 yX4_labelAt yX4_labelAt, .initialized RX4, .code yX4_labelAt cX4_labelAt 2 (some .int), .fieldLink RX4 22 "EntryMasters$Tree" "labels" "[I", .static yX5_at, .initialized RX5, .code yX5_at cX5_at 2 (some .int)] ++ wsX40)
def wsX4_childAfter : List Cond := .code yX4_childAfter cX4_childAfter 6 (some .int) :: ([.fieldLink RX4 19 "EntryMasters$Tree" "parents" "[I", .methodLink RX4 158 yX3_isReferral, .instanceMethod yX3_isReferral, .selects RX3 yX3_isReferral yX3_isReferral, .initialized RX3, .code yX3_isReferral cX3_isReferral 2 (some .boolean), .fieldLink RX3 15 "EntryMasters$Marks" "referrals" "[Z", .methodLink RX4 163 yX4_orderUnderParent, .instanceMethod yX4_orderUnderParent, .selects RX4 yX4_orderUnderParent yX4_orderUnderParent, .initialized RX4, .code yX4_orderUnderParent cX4_orderUnderParent 3 (some .int), .methodLink RX4 155 yX4_labelAt, .instanceMethod yX4_labelAt, .selects RX4 yX4_labelAt yX4_labelAt, .code yX4_labelAt cX4_labelAt 2 (some .int), .fieldLink RX4 22 "EntryMasters$Tree" "labels" "[I", .static yX5_at, .initialized RX5, .code yX5_at cX5_at 2 (some .int)] ++ wsX40 ++ wsX30)
def wsX4_entryAfter_r1 : List Cond := [Cond.methodLink RX4 166 yX4_childAfter, Cond.instanceMethod yX4_childAfter, Cond.selects RX4 yX4_childAfter yX4_childAfter, Cond.initialized RX4, Cond.code yX4_childAfter cX4_childAfter 6 (some .int), Cond.fieldLink RX4 19 "EntryMasters$Tree" "parents" "[I", Cond.methodLink RX4 158 yX3_isReferral, Cond.instanceMethod yX3_isReferral, Cond.selects RX3 yX3_isReferral yX3_isReferral, Cond.initialized RX3, Cond.code yX3_isReferral cX3_isReferral 2 (some .boolean), Cond.fieldLink RX3 15 "EntryMasters$Marks" "referrals" "[Z", Cond.methodLink RX4 163 yX4_orderUnderParent, Cond.instanceMethod yX4_orderUnderParent, Cond.selects RX4 yX4_orderUnderParent yX4_orderUnderParent, Cond.code yX4_orderUnderParent cX4_orderUnderParent 3 (some .int), Cond.methodLink RX4 155 yX4_labelAt, Cond.instanceMethod yX4_labelAt, Cond.selects RX4 yX4_labelAt yX4_labelAt, Cond.code yX4_labelAt cX4_labelAt 2 (some .int), Cond.fieldLink RX4 22 "EntryMasters$Tree" "labels" "[I", Cond.static yX5_at, Cond.initialized RX5, Cond.code yX5_at cX5_at 2 (some .int)]
def wsX4_entryAfter_r2 : List Cond := [Cond.methodLink RX4 145 yX4_parentAt, Cond.instanceMethod yX4_parentAt, Cond.selects RX4 yX4_parentAt yX4_parentAt, Cond.code yX4_parentAt cX4_parentAt 2 (some .int)]
def wsX4_entryAfter : List Cond := .code yX4_entryAfter cX4_entryAfter 8 (some .int) :: ((wsX4_entryAfter_r1 ++ wsX4_entryAfter_r2) ++ wsX40 ++ wsX30)
def wsX5_init_r1 : List Cond := [Cond.methodLink RX5 3 objectInit, Cond.instanceMethod objectInit, Cond.code objectInit ⟨#[0xb1]⟩ 1 none, Cond.classLink RX5 9 RX0, Cond.instantiable RX0 2, Cond.initialized RX0, Cond.fieldLink RX5 12 "EntryMasters" "classes" "LEntryMasters$Classes;", Cond.classLink RX5 16 RX2, Cond.instantiable RX2 7, Cond.initialized RX2, Cond.fieldLink RX5 19 "EntryMasters" "log" "LEntryMasters$Log;", Cond.classLink RX5 23 RX4, Cond.instantiable RX4 11, Cond.initialized RX4, Cond.fieldLink RX5 28 "EntryMasters" "firstTree" "LEntryMasters$Tree;", Cond.fieldLink RX5 32 "EntryMasters" "secondTree" "LEntryMasters$Tree;", Cond.classLink RX5 35 RX3, Cond.instantiable RX3 2, Cond.initialized RX3, Cond.fieldLink RX5 38 "EntryMasters" "marks" "LEntryMasters$Marks;", Cond.classLink RX5 42 RX1, Cond.instantiable RX1 5, Cond.initialized RX1, Cond.fieldLink RX5 45 "EntryMasters" "filters" "LEntryMasters$Filters;"]
def wsX5_init_r2 : List Cond := [Cond.methodLink RX5 11 yX0_init, Cond.instanceMethod yX0_init, Cond.code yX0_init cX0_init 1 none, Cond.methodLink RX0 3 objectInit, Cond.arrayClass .int, Cond.fieldLink RX0 9 "EntryMasters$Classes" "needed" "[I", Cond.fieldLink RX0 15 "EntryMasters$Classes" "allowed" "[I", Cond.methodLink RX0 18 yJ7_fill_53178, Cond.static yJ7_fill_53178, Cond.initialized RJ7, Cond.code yJ7_fill_53178 cJ7_fill_53178 4 none, Cond.instanceMethod yX2_init, Cond.code yX2_init cX2_init 1 none, Cond.methodLink RX2 3 objectInit, Cond.fieldLink RX2 9 "EntryMasters$Log" "kinds" "[I", Cond.fieldLink RX2 15 "EntryMasters$Log" "stamps" "[I", Cond.fieldLink RX2 18 "EntryMasters$Log" "entries" "[I", Cond.fieldLink RX2 21 "EntryMasters$Log" "targets" "[I", Cond.fieldLink RX2 24 "EntryMasters$Log" "contents" "[I", Cond.fieldLink RX2 27 "EntryMasters$Log" "classesOfAdded" "[I", Cond.methodLink RX5 25 yX4_init, Cond.instanceMethod yX4_init, Cond.code yX4_init cX4_init 4 none, Cond.methodLink RX4 3 objectInit]
def wsX5_init_r3 : List Cond := [Cond.fieldLink RX4 9 "EntryMasters$Tree" "known" "[I", Cond.arrayClass .boolean, Cond.fieldLink RX4 15 "EntryMasters$Tree" "there" "[Z", Cond.fieldLink RX4 19 "EntryMasters$Tree" "parents" "[I", Cond.fieldLink RX4 22 "EntryMasters$Tree" "labels" "[I", Cond.fieldLink RX4 25 "EntryMasters$Tree" "classesOfEntries" "[I", Cond.fieldLink RX4 28 "EntryMasters$Tree" "values" "[I", Cond.fieldLink RX4 31 "EntryMasters$Tree" "master" "I", Cond.fieldLink RX4 35 "EntryMasters$Tree" "log" "LEntryMasters$Log;", Cond.fieldLink RX4 39 "EntryMasters$Tree" "classes" "LEntryMasters$Classes;", Cond.methodLink RX4 43 yX4_clear, Cond.instanceMethod yX4_clear, Cond.selects RX4 yX4_clear yX4_clear, Cond.code yX4_clear cX4_clear 2 none, Cond.fieldLink RX4 52 "EntryMasters$Tree" "size" "I", Cond.methodLink RX4 46 yJ7_fill_53178, Cond.methodLink RX5 37 yX3_init, Cond.instanceMethod yX3_init, Cond.code yX3_init cX3_init 1 none, Cond.methodLink RX3 3 objectInit, Cond.fieldLink RX3 9 "EntryMasters$Marks" "rights" "[I", Cond.fieldLink RX3 15 "EntryMasters$Marks" "referrals" "[Z", Cond.methodLink RX3 19 yJ7_fill_53178, Cond.instanceMethod yX1_init]
def wsX5_init_r4 : List Cond := [Cond.code yX1_init cX1_init 1 none, Cond.methodLink RX1 3 objectInit, Cond.fieldLink RX1 9 "EntryMasters$Filters" "kinds" "[I", Cond.fieldLink RX1 15 "EntryMasters$Filters" "firsts" "[I", Cond.fieldLink RX1 18 "EntryMasters$Filters" "seconds" "[I", Cond.fieldLink RX1 21 "EntryMasters$Filters" "truths" "[I"]
def wsX5_init : List Cond := .code yX5_init cX5_init 1 none :: ((wsX5_init_r1 ++ (wsX5_init_r2 ++ (wsX5_init_r3 ++ wsX5_init_r4))) ++ wsX00 ++ wsX50 ++ wsX20 ++ wsX40 ++ wsX30 ++ wsX10)
def wsX5_checkIndex : List Cond := .code yX5_checkIndex cX5_checkIndex 2 none :: ([.classLink RX5 169 "java/lang/IndexOutOfBoundsException", .initialized "java/lang/IndexOutOfBoundsException"] ++ (vx_atS RX5 173 "java/lang/IndexOutOfBoundsException" ["java/lang/RuntimeException", "java/lang/Exception"]).filter goodWord)
def wsX5_checkArgument : List Cond := .code yX5_checkArgument cX5_checkArgument 3 none :: ([.classLink RX5 199 "java/lang/IllegalArgumentException", .initialized "java/lang/IllegalArgumentException"] ++ (vx_atS RX5 203 "java/lang/IllegalArgumentException" ["java/lang/RuntimeException", "java/lang/Exception"]).filter goodWord)
def wsX5_setClass : List Cond := .code yX5_setClass cX5_setClass 4 none :: ([.classLink RX5 61 "java/lang/IllegalStateException", .initialized "java/lang/IllegalStateException", .fieldLink RX5 19 "EntryMasters" "log" "LEntryMasters$Log;", .fieldLink RX5 12 "EntryMasters" "classes" "LEntryMasters$Classes;", .methodLink RX5 49 yX5_checkIndex, .static yX5_checkIndex, .initialized RX5, .code yX5_checkIndex cX5_checkIndex 2 none, .classLink RX5 169 "java/lang/IndexOutOfBoundsException", .initialized "java/lang/IndexOutOfBoundsException", .methodLink RX5 53 yX5_checkArgument, .static yX5_checkArgument, .code yX5_checkArgument cX5_checkArgument 3 none, .classLink RX5 199 "java/lang/IllegalArgumentException", .initialized "java/lang/IllegalArgumentException", .methodLink RX5 68 yX0_define, .instanceMethod yX0_define, .selects RX0 yX0_define yX0_define, .initialized RX0, .code yX0_define cX0_define 4 none, .fieldLink RX0 9 "EntryMasters$Classes" "needed" "[I", .fieldLink RX0 15 "EntryMasters$Classes" "allowed" "[I", .static yX5_put, .code yX5_put cX5_put 3 none] ++ wsX50 ++ wsX20 ++ wsX00 ++ (vx_atS RX5 65 "java/lang/IllegalStateException" ["java/lang/RuntimeException", "java/lang/Exception"]).filter goodWord ++ (vx_atS RX5 173 "java/lang/IndexOutOfBoundsException" ["java/lang/RuntimeException", "java/lang/Exception"]).filter goodWord ++ (vx_atS RX5 203 "java/lang/IllegalArgumentException" ["java/lang/RuntimeException", "java/lang/Exception"]).filter goodWord)
def wsX5_treeOf : List Cond := .code yX5_treeOf cX5_treeOf 2 (some (.object "EntryMasters$Tree")) :: ([.fieldLink RX5 28 "EntryMasters" "firstTree" "LEntryMasters$Tree;", .fieldLink RX5 32 "EntryMasters" "secondTree" "LEntryMasters$Tree;", .methodLink RX5 49 yX5_checkIndex, .static yX5_checkIndex, .initialized RX5, .code yX5_checkIndex cX5_checkIndex 2 none, .classLink RX5 169 "java/lang/IndexOutOfBoundsException", .initialized "java/lang/IndexOutOfBoundsException"] ++ wsX50 ++ (vx_atS RX5 173 "java/lang/IndexOutOfBoundsException" ["java/lang/RuntimeException", "java/lang/Exception"]).filter goodWord)
def wsX5_checkEntry : List Cond := .code yX5_checkEntry cX5_checkEntry 2 none :: ([.classLink RX5 169 "java/lang/IndexOutOfBoundsException", .initialized "java/lang/IndexOutOfBoundsException", .methodLink RX5 135 yX4_has, .instanceMethod yX4_has, .selects RX4 yX4_has yX4_has, .initialized RX4, .code yX4_has cX4_has 2 (some .boolean), .fieldLink RX4 15 "EntryMasters$Tree" "there" "[Z"] ++ wsX40 ++ (vx_atS RX5 173 "java/lang/IndexOutOfBoundsException" ["java/lang/RuntimeException", "java/lang/Exception"]).filter goodWord)
def wsX5_checkRoomForChange : List Cond := .code yX5_checkRoomForChange cX5_checkRoomForChange 1 none :: ([.classLink RX5 61 "java/lang/IllegalStateException", .initialized "java/lang/IllegalStateException", .fieldLink RX5 19 "EntryMasters" "log" "LEntryMasters$Log;"] ++ wsX50 ++ wsX20 ++ (vx_atS RX5 65 "java/lang/IllegalStateException" ["java/lang/RuntimeException", "java/lang/Exception"]).filter goodWord)
def wsX5_checkLabelIsFree : List Cond := .code yX5_checkLabelIsFree cX5_checkLabelIsFree 4 none :: ([.classLink RX5 61 "java/lang/IllegalStateException", .initialized "java/lang/IllegalStateException", .methodLink RX5 144 yX4_childWithLabelLike, .instanceMethod yX4_childWithLabelLike, .selects RX4 yX4_childWithLabelLike yX4_childWithLabelLike, .initialized RX4, .code yX4_childWithLabelLike cX4_childWithLabelLike 5 (some .int), .fieldLink RX4 19 "EntryMasters$Tree" "parents" "[I", .fieldLink RX4 22 "EntryMasters$Tree" "labels" "[I", .methodLink RX4 148 yX4_areLike, .static yX4_areLike, .code yX4_areLike cX4_areLike 2 (some .boolean)] ++ wsX40 ++ (vx_atS RX5 65 "java/lang/IllegalStateException" ["java/lang/RuntimeException", "java/lang/Exception"]).filter goodWord)
def wsX5_add_r1 : List Cond := [Cond.fieldLink RX5 19 "EntryMasters" "log" "LEntryMasters$Log;", Cond.methodLink RX5 71 yX5_treeOf, Cond.instanceMethod yX5_treeOf, Cond.selects RX5 yX5_treeOf yX5_treeOf, Cond.initialized RX5, Cond.code yX5_treeOf cX5_treeOf 2 (some (.object "EntryMasters$Tree")), Cond.fieldLink RX5 28 "EntryMasters" "firstTree" "LEntryMasters$Tree;", Cond.fieldLink RX5 32 "EntryMasters" "secondTree" "LEntryMasters$Tree;", Cond.methodLink RX5 49 yX5_checkIndex, Cond.static yX5_checkIndex, Cond.code yX5_checkIndex cX5_checkIndex 2 none, Cond.classLink RX5 169 "java/lang/IndexOutOfBoundsException", Cond.initialized "java/lang/IndexOutOfBoundsException", Cond.methodLink RX5 75 yX5_checkEntry, Cond.static yX5_checkEntry, Cond.code yX5_checkEntry cX5_checkEntry 2 none, Cond.methodLink RX5 135 yX4_has, Cond.instanceMethod yX4_has, Cond.selects RX4 yX4_has yX4_has, Cond.initialized RX4, Cond.code yX4_has cX4_has 2 (some .boolean), Cond.fieldLink RX4 15 "EntryMasters$Tree" "there" "[Z", Cond.methodLink RX5 53 yX5_checkArgument, Cond.static yX5_checkArgument]
def wsX5_add_r2 : List Cond := [Cond.code yX5_checkArgument cX5_checkArgument 3 none, Cond.classLink RX5 199 "java/lang/IllegalArgumentException", Cond.initialized "java/lang/IllegalArgumentException", Cond.methodLink RX5 79 yX5_checkRoomForChange, Cond.instanceMethod yX5_checkRoomForChange, Cond.selects RX5 yX5_checkRoomForChange yX5_checkRoomForChange, Cond.code yX5_checkRoomForChange cX5_checkRoomForChange 1 none, Cond.classLink RX5 61 "java/lang/IllegalStateException", Cond.initialized "java/lang/IllegalStateException", Cond.methodLink RX5 82 yX5_checkLabelIsFree, Cond.static yX5_checkLabelIsFree, Cond.code yX5_checkLabelIsFree cX5_checkLabelIsFree 4 none, Cond.methodLink RX5 144 yX4_childWithLabelLike, Cond.instanceMethod yX4_childWithLabelLike, Cond.selects RX4 yX4_childWithLabelLike yX4_childWithLabelLike, Cond.code yX4_childWithLabelLike cX4_childWithLabelLike 5 (some .int), Cond.fieldLink RX4 19 "EntryMasters$Tree" "parents" "[I", Cond.fieldLink RX4 22 "EntryMasters$Tree" "labels" "[I", Cond.methodLink RX4 148 yX4_areLike, Cond.static yX4_areLike, Cond.code yX4_areLike cX4_areLike 2 (some .boolean), Cond.methodLink RX5 86 yX4_stampOfNext, Cond.instanceMethod yX4_stampOfNext, Cond.selects RX4 yX4_stampOfNext yX4_stampOfNext]
def wsX5_add_r3 : List Cond := [Cond.code yX4_stampOfNext cX4_stampOfNext 2 (some .int), Cond.fieldLink RX4 55 "EntryMasters$Tree" "knownCount" "I", Cond.fieldLink RX4 35 "EntryMasters$Tree" "log" "LEntryMasters$Log;", Cond.fieldLink RX4 9 "EntryMasters$Tree" "known" "[I", Cond.fieldLink RX4 31 "EntryMasters$Tree" "master" "I", Cond.static yX5_at, Cond.code yX5_at cX5_at 2 (some .int), Cond.methodLink RX4 62 yX2_timeAt, Cond.instanceMethod yX2_timeAt, Cond.selects RX2 yX2_timeAt yX2_timeAt, Cond.initialized RX2, Cond.code yX2_timeAt cX2_timeAt 2 (some .int), Cond.fieldLink RX2 15 "EntryMasters$Log" "stamps" "[I", Cond.methodLink RX4 68 yX2_stampFrom, Cond.static yX2_stampFrom, Cond.code yX2_stampFrom cX2_stampFrom 2 (some .int), Cond.methodLink RX5 90 yX2_append, Cond.instanceMethod yX2_append, Cond.selects RX2 yX2_append yX2_append, Cond.code yX2_append cX2_append 8 (some .int), Cond.fieldLink RX2 30 "EntryMasters$Log" "count" "I", Cond.fieldLink RX2 9 "EntryMasters$Log" "kinds" "[I", Cond.fieldLink RX2 18 "EntryMasters$Log" "entries" "[I", Cond.fieldLink RX2 21 "EntryMasters$Log" "targets" "[I"]
def wsX5_add_r4 : List Cond := [Cond.fieldLink RX2 24 "EntryMasters$Log" "contents" "[I", Cond.fieldLink RX2 27 "EntryMasters$Log" "classesOfAdded" "[I", Cond.static yX5_put, Cond.code yX5_put cX5_put 3 none, Cond.methodLink RX5 94 yX4_learn, Cond.instanceMethod yX4_learn, Cond.selects RX4 yX4_learn yX4_learn, Cond.code yX4_learn cX4_learn 3 none, Cond.methodLink RX4 72 yX4_putInOrder, Cond.instanceMethod yX4_putInOrder, Cond.selects RX4 yX4_putInOrder yX4_putInOrder, Cond.code yX4_putInOrder cX4_putInOrder 3 (some .int), Cond.methodLink RX4 79 yX2_stampAt, Cond.instanceMethod yX2_stampAt, Cond.selects RX2 yX2_stampAt yX2_stampAt, Cond.code yX2_stampAt cX2_stampAt 2 (some .int), Cond.methodLink RX4 43 yX4_clear, Cond.instanceMethod yX4_clear, Cond.selects RX4 yX4_clear yX4_clear, Cond.code yX4_clear cX4_clear 2 none, Cond.fieldLink RX4 25 "EntryMasters$Tree" "classesOfEntries" "[I", Cond.fieldLink RX4 28 "EntryMasters$Tree" "values" "[I", Cond.fieldLink RX4 52 "EntryMasters$Tree" "size" "I", Cond.methodLink RX4 46 yJ7_fill_53178]
def wsX5_add_r5 : List Cond := [Cond.static yJ7_fill_53178, Cond.initialized RJ7, Cond.code yJ7_fill_53178 cJ7_fill_53178 4 none, Cond.methodLink RX4 75 yX4_perform, Cond.instanceMethod yX4_perform, Cond.selects RX4 yX4_perform yX4_perform, Cond.code yX4_perform cX4_perform 5 none, Cond.methodLink RX4 101 yX4_performAdding, Cond.instanceMethod yX4_performAdding, Cond.selects RX4 yX4_performAdding yX4_performAdding, Cond.code yX4_performAdding cX4_performAdding 5 none, Cond.methodLink RX4 115 yX4_settle, Cond.instanceMethod yX4_settle, Cond.selects RX4 yX4_settle yX4_settle, Cond.code yX4_settle cX4_settle 4 none, Cond.methodLink RX4 119 yX4_has, Cond.methodLink RX4 130 yX4_childWithLabelLike, Cond.methodLink RX4 105 yX4_performSetting, Cond.instanceMethod yX4_performSetting, Cond.selects RX4 yX4_performSetting yX4_performSetting, Cond.code yX4_performSetting cX4_performSetting 4 none, Cond.methodLink RX4 123 yX4_mayHold, Cond.instanceMethod yX4_mayHold, Cond.selects RX4 yX4_mayHold yX4_mayHold]
def wsX5_add_r6 : List Cond := [Cond.code yX4_mayHold cX4_mayHold 3 (some .boolean), Cond.fieldLink RX4 39 "EntryMasters$Tree" "classes" "LEntryMasters$Classes;", Cond.methodLink RX4 134 yX0_allows, Cond.instanceMethod yX0_allows, Cond.selects RX0 yX0_allows yX0_allows, Cond.initialized RX0, Cond.code yX0_allows cX0_allows 3 (some .boolean), Cond.fieldLink RX0 15 "EntryMasters$Classes" "allowed" "[I", Cond.methodLink RX0 28 yX0_hasBit, Cond.static yX0_hasBit, Cond.code yX0_hasBit cX0_hasBit 2 (some .boolean), Cond.methodLink RX4 109 yX4_performMoving, Cond.instanceMethod yX4_performMoving, Cond.selects RX4 yX4_performMoving yX4_performMoving, Cond.code yX4_performMoving cX4_performMoving 4 none, Cond.methodLink RX4 127 yX4_isAtOrBelow, Cond.instanceMethod yX4_isAtOrBelow, Cond.selects RX4 yX4_isAtOrBelow yX4_isAtOrBelow, Cond.code yX4_isAtOrBelow cX4_isAtOrBelow 5 (some .boolean), Cond.methodLink RX4 145 yX4_parentAt, Cond.instanceMethod yX4_parentAt, Cond.selects RX4 yX4_parentAt yX4_parentAt, Cond.code yX4_parentAt cX4_parentAt 2 (some .int), Cond.methodLink RX4 112 yX4_performDeleting]
def wsX5_add_r7 : List Cond := [Cond.instanceMethod yX4_performDeleting, Cond.selects RX4 yX4_performDeleting yX4_performDeleting, Cond.code yX4_performDeleting cX4_performDeleting 3 none]
def wsX5_add : List Cond := .code yX5_add cX5_add 7 (some .int) :: ((wsX5_add_r1 ++ (wsX5_add_r2 ++ (wsX5_add_r3 ++ (wsX5_add_r4 ++ (wsX5_add_r5 ++ (wsX5_add_r6 ++ wsX5_add_r7)))))) ++ wsX50 ++ wsX20 ++ wsX40 ++ wsX00 ++ (vx_atS RX5 173 "java/lang/IndexOutOfBoundsException" ["java/lang/RuntimeException", "java/lang/Exception"]).filter goodWord ++ (vx_atS RX5 203 "java/lang/IllegalArgumentException" ["java/lang/RuntimeException", "java/lang/Exception"]).filter goodWord ++ (vx_atS RX5 65 "java/lang/IllegalStateException" ["java/lang/RuntimeException", "java/lang/Exception"]).filter goodWord)
def wsX5_set_r1 : List Cond := [Cond.classLink RX5 61 "java/lang/IllegalStateException", Cond.initialized "java/lang/IllegalStateException", Cond.fieldLink RX5 19 "EntryMasters" "log" "LEntryMasters$Log;", Cond.methodLink RX5 71 yX5_treeOf, Cond.instanceMethod yX5_treeOf, Cond.selects RX5 yX5_treeOf yX5_treeOf, Cond.initialized RX5, Cond.code yX5_treeOf cX5_treeOf 2 (some (.object "EntryMasters$Tree")), Cond.fieldLink RX5 28 "EntryMasters" "firstTree" "LEntryMasters$Tree;", Cond.fieldLink RX5 32 "EntryMasters" "secondTree" "LEntryMasters$Tree;", Cond.methodLink RX5 49 yX5_checkIndex, Cond.static yX5_checkIndex, Cond.code yX5_checkIndex cX5_checkIndex 2 none, Cond.classLink RX5 169 "java/lang/IndexOutOfBoundsException", Cond.initialized "java/lang/IndexOutOfBoundsException", Cond.methodLink RX5 75 yX5_checkEntry, Cond.static yX5_checkEntry, Cond.code yX5_checkEntry cX5_checkEntry 2 none, Cond.methodLink RX5 135 yX4_has, Cond.instanceMethod yX4_has, Cond.selects RX4 yX4_has yX4_has, Cond.initialized RX4, Cond.code yX4_has cX4_has 2 (some .boolean), Cond.fieldLink RX4 15 "EntryMasters$Tree" "there" "[Z"]
def wsX5_set_r2 : List Cond := [Cond.methodLink RX5 53 yX5_checkArgument, Cond.static yX5_checkArgument, Cond.code yX5_checkArgument cX5_checkArgument 3 none, Cond.classLink RX5 199 "java/lang/IllegalArgumentException", Cond.initialized "java/lang/IllegalArgumentException", Cond.methodLink RX5 79 yX5_checkRoomForChange, Cond.instanceMethod yX5_checkRoomForChange, Cond.selects RX5 yX5_checkRoomForChange yX5_checkRoomForChange, Cond.code yX5_checkRoomForChange cX5_checkRoomForChange 1 none, Cond.methodLink RX5 98 yX4_mayHold, Cond.instanceMethod yX4_mayHold, Cond.selects RX4 yX4_mayHold yX4_mayHold, Cond.code yX4_mayHold cX4_mayHold 3 (some .boolean), Cond.fieldLink RX4 39 "EntryMasters$Tree" "classes" "LEntryMasters$Classes;", Cond.fieldLink RX4 25 "EntryMasters$Tree" "classesOfEntries" "[I", Cond.static yX5_at, Cond.code yX5_at cX5_at 2 (some .int), Cond.methodLink RX4 134 yX0_allows, Cond.instanceMethod yX0_allows, Cond.selects RX0 yX0_allows yX0_allows, Cond.initialized RX0, Cond.code yX0_allows cX0_allows 3 (some .boolean), Cond.fieldLink RX0 15 "EntryMasters$Classes" "allowed" "[I", Cond.methodLink RX0 28 yX0_hasBit]
def wsX5_set_r3 : List Cond := [Cond.static yX0_hasBit, Cond.code yX0_hasBit cX0_hasBit 2 (some .boolean), Cond.methodLink RX5 104 yX4_valueAt, Cond.instanceMethod yX4_valueAt, Cond.selects RX4 yX4_valueAt yX4_valueAt, Cond.code yX4_valueAt cX4_valueAt 3 (some .int), Cond.fieldLink RX4 28 "EntryMasters$Tree" "values" "[I", Cond.methodLink RX5 86 yX4_stampOfNext, Cond.instanceMethod yX4_stampOfNext, Cond.selects RX4 yX4_stampOfNext yX4_stampOfNext, Cond.code yX4_stampOfNext cX4_stampOfNext 2 (some .int), Cond.fieldLink RX4 55 "EntryMasters$Tree" "knownCount" "I", Cond.fieldLink RX4 35 "EntryMasters$Tree" "log" "LEntryMasters$Log;", Cond.fieldLink RX4 9 "EntryMasters$Tree" "known" "[I", Cond.fieldLink RX4 31 "EntryMasters$Tree" "master" "I", Cond.methodLink RX4 62 yX2_timeAt, Cond.instanceMethod yX2_timeAt, Cond.selects RX2 yX2_timeAt yX2_timeAt, Cond.initialized RX2, Cond.code yX2_timeAt cX2_timeAt 2 (some .int), Cond.fieldLink RX2 15 "EntryMasters$Log" "stamps" "[I", Cond.methodLink RX4 68 yX2_stampFrom, Cond.static yX2_stampFrom, Cond.code yX2_stampFrom cX2_stampFrom 2 (some .int)]
def wsX5_set_r4 : List Cond := [Cond.methodLink RX5 90 yX2_append, Cond.instanceMethod yX2_append, Cond.selects RX2 yX2_append yX2_append, Cond.code yX2_append cX2_append 8 (some .int), Cond.fieldLink RX2 30 "EntryMasters$Log" "count" "I", Cond.fieldLink RX2 9 "EntryMasters$Log" "kinds" "[I", Cond.fieldLink RX2 18 "EntryMasters$Log" "entries" "[I", Cond.fieldLink RX2 21 "EntryMasters$Log" "targets" "[I", Cond.fieldLink RX2 24 "EntryMasters$Log" "contents" "[I", Cond.fieldLink RX2 27 "EntryMasters$Log" "classesOfAdded" "[I", Cond.static yX5_put, Cond.code yX5_put cX5_put 3 none, Cond.methodLink RX5 94 yX4_learn, Cond.instanceMethod yX4_learn, Cond.selects RX4 yX4_learn yX4_learn, Cond.code yX4_learn cX4_learn 3 none, Cond.methodLink RX4 72 yX4_putInOrder, Cond.instanceMethod yX4_putInOrder, Cond.selects RX4 yX4_putInOrder yX4_putInOrder, Cond.code yX4_putInOrder cX4_putInOrder 3 (some .int), Cond.methodLink RX4 79 yX2_stampAt, Cond.instanceMethod yX2_stampAt, Cond.selects RX2 yX2_stampAt yX2_stampAt, Cond.code yX2_stampAt cX2_stampAt 2 (some .int)]
def wsX5_set_r5 : List Cond := [Cond.methodLink RX4 43 yX4_clear, Cond.instanceMethod yX4_clear, Cond.selects RX4 yX4_clear yX4_clear, Cond.code yX4_clear cX4_clear 2 none, Cond.fieldLink RX4 19 "EntryMasters$Tree" "parents" "[I", Cond.fieldLink RX4 22 "EntryMasters$Tree" "labels" "[I", Cond.fieldLink RX4 52 "EntryMasters$Tree" "size" "I", Cond.methodLink RX4 46 yJ7_fill_53178, Cond.static yJ7_fill_53178, Cond.initialized RJ7, Cond.code yJ7_fill_53178 cJ7_fill_53178 4 none, Cond.methodLink RX4 75 yX4_perform, Cond.instanceMethod yX4_perform, Cond.selects RX4 yX4_perform yX4_perform, Cond.code yX4_perform cX4_perform 5 none, Cond.methodLink RX4 101 yX4_performAdding, Cond.instanceMethod yX4_performAdding, Cond.selects RX4 yX4_performAdding yX4_performAdding, Cond.code yX4_performAdding cX4_performAdding 5 none, Cond.methodLink RX4 115 yX4_settle, Cond.instanceMethod yX4_settle, Cond.selects RX4 yX4_settle yX4_settle, Cond.code yX4_settle cX4_settle 4 none, Cond.methodLink RX4 119 yX4_has]
def wsX5_set_r6 : List Cond := [Cond.methodLink RX4 130 yX4_childWithLabelLike, Cond.instanceMethod yX4_childWithLabelLike, Cond.selects RX4 yX4_childWithLabelLike yX4_childWithLabelLike, Cond.code yX4_childWithLabelLike cX4_childWithLabelLike 5 (some .int), Cond.methodLink RX4 148 yX4_areLike, Cond.static yX4_areLike, Cond.code yX4_areLike cX4_areLike 2 (some .boolean), Cond.methodLink RX4 105 yX4_performSetting, Cond.instanceMethod yX4_performSetting, Cond.selects RX4 yX4_performSetting yX4_performSetting, Cond.code yX4_performSetting cX4_performSetting 4 none, Cond.methodLink RX4 123 yX4_mayHold, Cond.methodLink RX4 109 yX4_performMoving, Cond.instanceMethod yX4_performMoving, Cond.selects RX4 yX4_performMoving yX4_performMoving, Cond.code yX4_performMoving cX4_performMoving 4 none, Cond.methodLink RX4 127 yX4_isAtOrBelow, Cond.instanceMethod yX4_isAtOrBelow, Cond.selects RX4 yX4_isAtOrBelow yX4_isAtOrBelow, Cond.code yX4_isAtOrBelow cX4_isAtOrBelow 5 (some .boolean), Cond.methodLink RX4 145 yX4_parentAt, Cond.instanceMethod yX4_parentAt, Cond.selects RX4 yX4_parentAt yX4_parentAt, Cond.code yX4_parentAt cX4_parentAt 2 (some .int)]
def wsX5_set_r7 : List Cond := [Cond.methodLink RX4 112 yX4_performDeleting, Cond.instanceMethod yX4_performDeleting, Cond.selects RX4 yX4_performDeleting yX4_performDeleting, Cond.code yX4_performDeleting cX4_performDeleting 3 none]
def wsX5_set : List Cond := .code yX5_set cX5_set 7 (some .int) :: ((wsX5_set_r1 ++ (wsX5_set_r2 ++ (wsX5_set_r3 ++ (wsX5_set_r4 ++ (wsX5_set_r5 ++ (wsX5_set_r6 ++ wsX5_set_r7)))))) ++ wsX50 ++ wsX40 ++ wsX20 ++ wsX00 ++ (vx_atS RX5 65 "java/lang/IllegalStateException" ["java/lang/RuntimeException", "java/lang/Exception"]).filter goodWord ++ (vx_atS RX5 173 "java/lang/IndexOutOfBoundsException" ["java/lang/RuntimeException", "java/lang/Exception"]).filter goodWord ++ (vx_atS RX5 203 "java/lang/IllegalArgumentException" ["java/lang/RuntimeException", "java/lang/Exception"]).filter goodWord)
def wsX5_checkIsNotFixed : List Cond := .code yX5_checkIsNotFixed cX5_checkIsNotFixed 1 none :: ([.classLink RX5 61 "java/lang/IllegalStateException", .initialized "java/lang/IllegalStateException"] ++ (vx_atS RX5 65 "java/lang/IllegalStateException" ["java/lang/RuntimeException", "java/lang/Exception"]).filter goodWord)
def wsX5_move_r1 : List Cond := [Cond.classLink RX5 61 "java/lang/IllegalStateException", Cond.initialized "java/lang/IllegalStateException", Cond.fieldLink RX5 19 "EntryMasters" "log" "LEntryMasters$Log;", Cond.methodLink RX5 71 yX5_treeOf, Cond.instanceMethod yX5_treeOf, Cond.selects RX5 yX5_treeOf yX5_treeOf, Cond.initialized RX5, Cond.code yX5_treeOf cX5_treeOf 2 (some (.object "EntryMasters$Tree")), Cond.fieldLink RX5 28 "EntryMasters" "firstTree" "LEntryMasters$Tree;", Cond.fieldLink RX5 32 "EntryMasters" "secondTree" "LEntryMasters$Tree;", Cond.methodLink RX5 49 yX5_checkIndex, Cond.static yX5_checkIndex, Cond.code yX5_checkIndex cX5_checkIndex 2 none, Cond.classLink RX5 169 "java/lang/IndexOutOfBoundsException", Cond.initialized "java/lang/IndexOutOfBoundsException", Cond.methodLink RX5 75 yX5_checkEntry, Cond.static yX5_checkEntry, Cond.code yX5_checkEntry cX5_checkEntry 2 none, Cond.methodLink RX5 135 yX4_has, Cond.instanceMethod yX4_has, Cond.selects RX4 yX4_has yX4_has, Cond.initialized RX4, Cond.code yX4_has cX4_has 2 (some .boolean), Cond.fieldLink RX4 15 "EntryMasters$Tree" "there" "[Z"]
def wsX5_move_r2 : List Cond := [Cond.methodLink RX5 53 yX5_checkArgument, Cond.static yX5_checkArgument, Cond.code yX5_checkArgument cX5_checkArgument 3 none, Cond.classLink RX5 199 "java/lang/IllegalArgumentException", Cond.initialized "java/lang/IllegalArgumentException", Cond.methodLink RX5 79 yX5_checkRoomForChange, Cond.instanceMethod yX5_checkRoomForChange, Cond.selects RX5 yX5_checkRoomForChange yX5_checkRoomForChange, Cond.code yX5_checkRoomForChange cX5_checkRoomForChange 1 none, Cond.methodLink RX5 108 yX5_checkIsNotFixed, Cond.static yX5_checkIsNotFixed, Cond.code yX5_checkIsNotFixed cX5_checkIsNotFixed 1 none, Cond.methodLink RX5 111 yX4_isAtOrBelow, Cond.instanceMethod yX4_isAtOrBelow, Cond.selects RX4 yX4_isAtOrBelow yX4_isAtOrBelow, Cond.code yX4_isAtOrBelow cX4_isAtOrBelow 5 (some .boolean), Cond.methodLink RX4 145 yX4_parentAt, Cond.instanceMethod yX4_parentAt, Cond.selects RX4 yX4_parentAt yX4_parentAt, Cond.code yX4_parentAt cX4_parentAt 2 (some .int), Cond.fieldLink RX4 19 "EntryMasters$Tree" "parents" "[I", Cond.static yX5_at, Cond.code yX5_at cX5_at 2 (some .int), Cond.methodLink RX5 82 yX5_checkLabelIsFree]
def wsX5_move_r3 : List Cond := [Cond.static yX5_checkLabelIsFree, Cond.code yX5_checkLabelIsFree cX5_checkLabelIsFree 4 none, Cond.methodLink RX5 144 yX4_childWithLabelLike, Cond.instanceMethod yX4_childWithLabelLike, Cond.selects RX4 yX4_childWithLabelLike yX4_childWithLabelLike, Cond.code yX4_childWithLabelLike cX4_childWithLabelLike 5 (some .int), Cond.fieldLink RX4 22 "EntryMasters$Tree" "labels" "[I", Cond.methodLink RX4 148 yX4_areLike, Cond.static yX4_areLike, Cond.code yX4_areLike cX4_areLike 2 (some .boolean), Cond.methodLink RX5 116 yX4_parentAt, Cond.methodLink RX5 86 yX4_stampOfNext, Cond.instanceMethod yX4_stampOfNext, Cond.selects RX4 yX4_stampOfNext yX4_stampOfNext, Cond.code yX4_stampOfNext cX4_stampOfNext 2 (some .int), Cond.fieldLink RX4 55 "EntryMasters$Tree" "knownCount" "I", Cond.fieldLink RX4 35 "EntryMasters$Tree" "log" "LEntryMasters$Log;", Cond.fieldLink RX4 9 "EntryMasters$Tree" "known" "[I", Cond.fieldLink RX4 31 "EntryMasters$Tree" "master" "I", Cond.methodLink RX4 62 yX2_timeAt, Cond.instanceMethod yX2_timeAt, Cond.selects RX2 yX2_timeAt yX2_timeAt, Cond.initialized RX2, Cond.code yX2_timeAt cX2_timeAt 2 (some .int)]
def wsX5_move_r4 : List Cond := [Cond.fieldLink RX2 15 "EntryMasters$Log" "stamps" "[I", Cond.methodLink RX4 68 yX2_stampFrom, Cond.static yX2_stampFrom, Cond.code yX2_stampFrom cX2_stampFrom 2 (some .int), Cond.methodLink RX5 90 yX2_append, Cond.instanceMethod yX2_append, Cond.selects RX2 yX2_append yX2_append, Cond.code yX2_append cX2_append 8 (some .int), Cond.fieldLink RX2 30 "EntryMasters$Log" "count" "I", Cond.fieldLink RX2 9 "EntryMasters$Log" "kinds" "[I", Cond.fieldLink RX2 18 "EntryMasters$Log" "entries" "[I", Cond.fieldLink RX2 21 "EntryMasters$Log" "targets" "[I", Cond.fieldLink RX2 24 "EntryMasters$Log" "contents" "[I", Cond.fieldLink RX2 27 "EntryMasters$Log" "classesOfAdded" "[I", Cond.static yX5_put, Cond.code yX5_put cX5_put 3 none, Cond.methodLink RX5 94 yX4_learn, Cond.instanceMethod yX4_learn, Cond.selects RX4 yX4_learn yX4_learn, Cond.code yX4_learn cX4_learn 3 none, Cond.methodLink RX4 72 yX4_putInOrder, Cond.instanceMethod yX4_putInOrder, Cond.selects RX4 yX4_putInOrder yX4_putInOrder, Cond.code yX4_putInOrder cX4_putInOrder 3 (some .int)]
def wsX5_move_r5 : List Cond := [Cond.methodLink RX4 79 yX2_stampAt, Cond.instanceMethod yX2_stampAt, Cond.selects RX2 yX2_stampAt yX2_stampAt, Cond.code yX2_stampAt cX2_stampAt 2 (some .int), Cond.methodLink RX4 43 yX4_clear, Cond.instanceMethod yX4_clear, Cond.selects RX4 yX4_clear yX4_clear, Cond.code yX4_clear cX4_clear 2 none, Cond.fieldLink RX4 25 "EntryMasters$Tree" "classesOfEntries" "[I", Cond.fieldLink RX4 28 "EntryMasters$Tree" "values" "[I", Cond.fieldLink RX4 52 "EntryMasters$Tree" "size" "I", Cond.methodLink RX4 46 yJ7_fill_53178, Cond.static yJ7_fill_53178, Cond.initialized RJ7, Cond.code yJ7_fill_53178 cJ7_fill_53178 4 none, Cond.methodLink RX4 75 yX4_perform, Cond.instanceMethod yX4_perform, Cond.selects RX4 yX4_perform yX4_perform, Cond.code yX4_perform cX4_perform 5 none, Cond.methodLink RX4 101 yX4_performAdding, Cond.instanceMethod yX4_performAdding, Cond.selects RX4 yX4_performAdding yX4_performAdding, Cond.code yX4_performAdding cX4_performAdding 5 none, Cond.methodLink RX4 115 yX4_settle]
def wsX5_move_r6 : List Cond := [Cond.instanceMethod yX4_settle, Cond.selects RX4 yX4_settle yX4_settle, Cond.code yX4_settle cX4_settle 4 none, Cond.methodLink RX4 119 yX4_has, Cond.methodLink RX4 130 yX4_childWithLabelLike, Cond.methodLink RX4 105 yX4_performSetting, Cond.instanceMethod yX4_performSetting, Cond.selects RX4 yX4_performSetting yX4_performSetting, Cond.code yX4_performSetting cX4_performSetting 4 none, Cond.methodLink RX4 123 yX4_mayHold, Cond.instanceMethod yX4_mayHold, Cond.selects RX4 yX4_mayHold yX4_mayHold, Cond.code yX4_mayHold cX4_mayHold 3 (some .boolean), Cond.fieldLink RX4 39 "EntryMasters$Tree" "classes" "LEntryMasters$Classes;", Cond.methodLink RX4 134 yX0_allows, Cond.instanceMethod yX0_allows, Cond.selects RX0 yX0_allows yX0_allows, Cond.initialized RX0, Cond.code yX0_allows cX0_allows 3 (some .boolean), Cond.fieldLink RX0 15 "EntryMasters$Classes" "allowed" "[I", Cond.methodLink RX0 28 yX0_hasBit, Cond.static yX0_hasBit, Cond.code yX0_hasBit cX0_hasBit 2 (some .boolean), Cond.methodLink RX4 109 yX4_performMoving]
def wsX5_move_r7 : List Cond := [Cond.instanceMethod yX4_performMoving, Cond.selects RX4 yX4_performMoving yX4_performMoving, Cond.code yX4_performMoving cX4_performMoving 4 none, Cond.methodLink RX4 127 yX4_isAtOrBelow, Cond.methodLink RX4 112 yX4_performDeleting, Cond.instanceMethod yX4_performDeleting, Cond.selects RX4 yX4_performDeleting yX4_performDeleting, Cond.code yX4_performDeleting cX4_performDeleting 3 none]
def wsX5_move : List Cond := .code yX5_move cX5_move 7 (some .int) :: ((wsX5_move_r1 ++ (wsX5_move_r2 ++ (wsX5_move_r3 ++ (wsX5_move_r4 ++ (wsX5_move_r5 ++ (wsX5_move_r6 ++ wsX5_move_r7)))))) ++ wsX50 ++ wsX40 ++ wsX20 ++ wsX00 ++ (vx_atS RX5 65 "java/lang/IllegalStateException" ["java/lang/RuntimeException", "java/lang/Exception"]).filter goodWord ++ (vx_atS RX5 173 "java/lang/IndexOutOfBoundsException" ["java/lang/RuntimeException", "java/lang/Exception"]).filter goodWord ++ (vx_atS RX5 203 "java/lang/IllegalArgumentException" ["java/lang/RuntimeException", "java/lang/Exception"]).filter goodWord)
def wsX5_delete_r1 : List Cond := [Cond.classLink RX5 61 "java/lang/IllegalStateException", Cond.initialized "java/lang/IllegalStateException", Cond.fieldLink RX5 19 "EntryMasters" "log" "LEntryMasters$Log;", Cond.methodLink RX5 71 yX5_treeOf, Cond.instanceMethod yX5_treeOf, Cond.selects RX5 yX5_treeOf yX5_treeOf, Cond.initialized RX5, Cond.code yX5_treeOf cX5_treeOf 2 (some (.object "EntryMasters$Tree")), Cond.fieldLink RX5 28 "EntryMasters" "firstTree" "LEntryMasters$Tree;", Cond.fieldLink RX5 32 "EntryMasters" "secondTree" "LEntryMasters$Tree;", Cond.methodLink RX5 49 yX5_checkIndex, Cond.static yX5_checkIndex, Cond.code yX5_checkIndex cX5_checkIndex 2 none, Cond.classLink RX5 169 "java/lang/IndexOutOfBoundsException", Cond.initialized "java/lang/IndexOutOfBoundsException", Cond.methodLink RX5 75 yX5_checkEntry, Cond.static yX5_checkEntry, Cond.code yX5_checkEntry cX5_checkEntry 2 none, Cond.methodLink RX5 135 yX4_has, Cond.instanceMethod yX4_has, Cond.selects RX4 yX4_has yX4_has, Cond.initialized RX4, Cond.code yX4_has cX4_has 2 (some .boolean), Cond.fieldLink RX4 15 "EntryMasters$Tree" "there" "[Z"]
def wsX5_delete_r2 : List Cond := [Cond.methodLink RX5 79 yX5_checkRoomForChange, Cond.instanceMethod yX5_checkRoomForChange, Cond.selects RX5 yX5_checkRoomForChange yX5_checkRoomForChange, Cond.code yX5_checkRoomForChange cX5_checkRoomForChange 1 none, Cond.methodLink RX5 108 yX5_checkIsNotFixed, Cond.static yX5_checkIsNotFixed, Cond.code yX5_checkIsNotFixed cX5_checkIsNotFixed 1 none, Cond.methodLink RX5 120 yX4_hasChild, Cond.instanceMethod yX4_hasChild, Cond.selects RX4 yX4_hasChild yX4_hasChild, Cond.code yX4_hasChild cX4_hasChild 3 (some .boolean), Cond.fieldLink RX4 19 "EntryMasters$Tree" "parents" "[I", Cond.methodLink RX5 86 yX4_stampOfNext, Cond.instanceMethod yX4_stampOfNext, Cond.selects RX4 yX4_stampOfNext yX4_stampOfNext, Cond.code yX4_stampOfNext cX4_stampOfNext 2 (some .int), Cond.fieldLink RX4 55 "EntryMasters$Tree" "knownCount" "I", Cond.fieldLink RX4 35 "EntryMasters$Tree" "log" "LEntryMasters$Log;", Cond.fieldLink RX4 9 "EntryMasters$Tree" "known" "[I", Cond.fieldLink RX4 31 "EntryMasters$Tree" "master" "I", Cond.static yX5_at, Cond.code yX5_at cX5_at 2 (some .int), Cond.methodLink RX4 62 yX2_timeAt, Cond.instanceMethod yX2_timeAt]
def wsX5_delete_r3 : List Cond := [Cond.selects RX2 yX2_timeAt yX2_timeAt, Cond.initialized RX2, Cond.code yX2_timeAt cX2_timeAt 2 (some .int), Cond.fieldLink RX2 15 "EntryMasters$Log" "stamps" "[I", Cond.methodLink RX4 68 yX2_stampFrom, Cond.static yX2_stampFrom, Cond.code yX2_stampFrom cX2_stampFrom 2 (some .int), Cond.methodLink RX5 90 yX2_append, Cond.instanceMethod yX2_append, Cond.selects RX2 yX2_append yX2_append, Cond.code yX2_append cX2_append 8 (some .int), Cond.fieldLink RX2 30 "EntryMasters$Log" "count" "I", Cond.fieldLink RX2 9 "EntryMasters$Log" "kinds" "[I", Cond.fieldLink RX2 18 "EntryMasters$Log" "entries" "[I", Cond.fieldLink RX2 21 "EntryMasters$Log" "targets" "[I", Cond.fieldLink RX2 24 "EntryMasters$Log" "contents" "[I", Cond.fieldLink RX2 27 "EntryMasters$Log" "classesOfAdded" "[I", Cond.static yX5_put, Cond.code yX5_put cX5_put 3 none, Cond.methodLink RX5 94 yX4_learn, Cond.instanceMethod yX4_learn, Cond.selects RX4 yX4_learn yX4_learn, Cond.code yX4_learn cX4_learn 3 none, Cond.methodLink RX4 72 yX4_putInOrder]
def wsX5_delete_r4 : List Cond := [Cond.instanceMethod yX4_putInOrder, Cond.selects RX4 yX4_putInOrder yX4_putInOrder, Cond.code yX4_putInOrder cX4_putInOrder 3 (some .int), Cond.methodLink RX4 79 yX2_stampAt, Cond.instanceMethod yX2_stampAt, Cond.selects RX2 yX2_stampAt yX2_stampAt, Cond.code yX2_stampAt cX2_stampAt 2 (some .int), Cond.methodLink RX4 43 yX4_clear, Cond.instanceMethod yX4_clear, Cond.selects RX4 yX4_clear yX4_clear, Cond.code yX4_clear cX4_clear 2 none, Cond.fieldLink RX4 22 "EntryMasters$Tree" "labels" "[I", Cond.fieldLink RX4 25 "EntryMasters$Tree" "classesOfEntries" "[I", Cond.fieldLink RX4 28 "EntryMasters$Tree" "values" "[I", Cond.fieldLink RX4 52 "EntryMasters$Tree" "size" "I", Cond.methodLink RX4 46 yJ7_fill_53178, Cond.static yJ7_fill_53178, Cond.initialized RJ7, Cond.code yJ7_fill_53178 cJ7_fill_53178 4 none, Cond.methodLink RX4 75 yX4_perform, Cond.instanceMethod yX4_perform, Cond.selects RX4 yX4_perform yX4_perform, Cond.code yX4_perform cX4_perform 5 none, Cond.methodLink RX4 101 yX4_performAdding]
def wsX5_delete_r5 : List Cond := [Cond.instanceMethod yX4_performAdding, Cond.selects RX4 yX4_performAdding yX4_performAdding, Cond.code yX4_performAdding cX4_performAdding 5 none, Cond.methodLink RX4 115 yX4_settle, Cond.instanceMethod yX4_settle, Cond.selects RX4 yX4_settle yX4_settle, Cond.code yX4_settle cX4_settle 4 none, Cond.methodLink RX4 119 yX4_has, Cond.methodLink RX4 130 yX4_childWithLabelLike, Cond.instanceMethod yX4_childWithLabelLike, Cond.selects RX4 yX4_childWithLabelLike yX4_childWithLabelLike, Cond.code yX4_childWithLabelLike cX4_childWithLabelLike 5 (some .int), Cond.methodLink RX4 148 yX4_areLike, Cond.static yX4_areLike, Cond.code yX4_areLike cX4_areLike 2 (some .boolean), Cond.methodLink RX4 105 yX4_performSetting, Cond.instanceMethod yX4_performSetting, Cond.selects RX4 yX4_performSetting yX4_performSetting, Cond.code yX4_performSetting cX4_performSetting 4 none, Cond.methodLink RX4 123 yX4_mayHold, Cond.instanceMethod yX4_mayHold, Cond.selects RX4 yX4_mayHold yX4_mayHold, Cond.code yX4_mayHold cX4_mayHold 3 (some .boolean), Cond.fieldLink RX4 39 "EntryMasters$Tree" "classes" "LEntryMasters$Classes;"]
def wsX5_delete_r6 : List Cond := [Cond.methodLink RX4 134 yX0_allows, Cond.instanceMethod yX0_allows, Cond.selects RX0 yX0_allows yX0_allows, Cond.initialized RX0, Cond.code yX0_allows cX0_allows 3 (some .boolean), Cond.fieldLink RX0 15 "EntryMasters$Classes" "allowed" "[I", Cond.methodLink RX0 28 yX0_hasBit, Cond.static yX0_hasBit, Cond.code yX0_hasBit cX0_hasBit 2 (some .boolean), Cond.methodLink RX4 109 yX4_performMoving, Cond.instanceMethod yX4_performMoving, Cond.selects RX4 yX4_performMoving yX4_performMoving, Cond.code yX4_performMoving cX4_performMoving 4 none, Cond.methodLink RX4 127 yX4_isAtOrBelow, Cond.instanceMethod yX4_isAtOrBelow, Cond.selects RX4 yX4_isAtOrBelow yX4_isAtOrBelow, Cond.code yX4_isAtOrBelow cX4_isAtOrBelow 5 (some .boolean), Cond.methodLink RX4 145 yX4_parentAt, Cond.instanceMethod yX4_parentAt, Cond.selects RX4 yX4_parentAt yX4_parentAt, Cond.code yX4_parentAt cX4_parentAt 2 (some .int), Cond.methodLink RX4 112 yX4_performDeleting, Cond.instanceMethod yX4_performDeleting, Cond.selects RX4 yX4_performDeleting yX4_performDeleting]
def wsX5_delete_r7 : List Cond := [Cond.code yX4_performDeleting cX4_performDeleting 3 none]
def wsX5_delete : List Cond := .code yX5_delete cX5_delete 4 (some .int) :: ((wsX5_delete_r1 ++ (wsX5_delete_r2 ++ (wsX5_delete_r3 ++ (wsX5_delete_r4 ++ (wsX5_delete_r5 ++ (wsX5_delete_r6 ++ wsX5_delete_r7)))))) ++ wsX50 ++ wsX40 ++ wsX20 ++ wsX00 ++ (vx_atS RX5 65 "java/lang/IllegalStateException" ["java/lang/RuntimeException", "java/lang/Exception"]).filter goodWord ++ (vx_atS RX5 173 "java/lang/IndexOutOfBoundsException" ["java/lang/RuntimeException", "java/lang/Exception"]).filter goodWord)
def wsX5_carry_r1 : List Cond := [Cond.fieldLink RX5 19 "EntryMasters" "log" "LEntryMasters$Log;", Cond.methodLink RX5 49 yX5_checkIndex, Cond.static yX5_checkIndex, Cond.initialized RX5, Cond.code yX5_checkIndex cX5_checkIndex 2 none, Cond.classLink RX5 169 "java/lang/IndexOutOfBoundsException", Cond.initialized "java/lang/IndexOutOfBoundsException", Cond.methodLink RX5 71 yX5_treeOf, Cond.instanceMethod yX5_treeOf, Cond.selects RX5 yX5_treeOf yX5_treeOf, Cond.code yX5_treeOf cX5_treeOf 2 (some (.object "EntryMasters$Tree")), Cond.fieldLink RX5 28 "EntryMasters" "firstTree" "LEntryMasters$Tree;", Cond.fieldLink RX5 32 "EntryMasters" "secondTree" "LEntryMasters$Tree;", Cond.methodLink RX5 129 yX4_knows, Cond.instanceMethod yX4_knows, Cond.selects RX4 yX4_knows yX4_knows, Cond.initialized RX4, Cond.code yX4_knows cX4_knows 3 (some .boolean), Cond.fieldLink RX4 55 "EntryMasters$Tree" "knownCount" "I", Cond.fieldLink RX4 9 "EntryMasters$Tree" "known" "[I", Cond.methodLink RX5 94 yX4_learn, Cond.instanceMethod yX4_learn, Cond.selects RX4 yX4_learn yX4_learn, Cond.code yX4_learn cX4_learn 3 none]
def wsX5_carry_r2 : List Cond := [Cond.methodLink RX4 72 yX4_putInOrder, Cond.instanceMethod yX4_putInOrder, Cond.selects RX4 yX4_putInOrder yX4_putInOrder, Cond.code yX4_putInOrder cX4_putInOrder 3 (some .int), Cond.fieldLink RX4 35 "EntryMasters$Tree" "log" "LEntryMasters$Log;", Cond.static yX5_at, Cond.code yX5_at cX5_at 2 (some .int), Cond.methodLink RX4 79 yX2_stampAt, Cond.instanceMethod yX2_stampAt, Cond.selects RX2 yX2_stampAt yX2_stampAt, Cond.initialized RX2, Cond.code yX2_stampAt cX2_stampAt 2 (some .int), Cond.fieldLink RX2 15 "EntryMasters$Log" "stamps" "[I", Cond.static yX5_put, Cond.code yX5_put cX5_put 3 none, Cond.methodLink RX4 43 yX4_clear, Cond.instanceMethod yX4_clear, Cond.selects RX4 yX4_clear yX4_clear, Cond.code yX4_clear cX4_clear 2 none, Cond.fieldLink RX4 15 "EntryMasters$Tree" "there" "[Z", Cond.fieldLink RX4 19 "EntryMasters$Tree" "parents" "[I", Cond.fieldLink RX4 22 "EntryMasters$Tree" "labels" "[I", Cond.fieldLink RX4 25 "EntryMasters$Tree" "classesOfEntries" "[I", Cond.fieldLink RX4 28 "EntryMasters$Tree" "values" "[I"]
def wsX5_carry_r3 : List Cond := [Cond.fieldLink RX4 52 "EntryMasters$Tree" "size" "I", Cond.methodLink RX4 46 yJ7_fill_53178, Cond.static yJ7_fill_53178, Cond.initialized RJ7, Cond.code yJ7_fill_53178 cJ7_fill_53178 4 none, Cond.methodLink RX4 75 yX4_perform, Cond.instanceMethod yX4_perform, Cond.selects RX4 yX4_perform yX4_perform, Cond.code yX4_perform cX4_perform 5 none, Cond.methodLink RX4 101 yX4_performAdding, Cond.instanceMethod yX4_performAdding, Cond.selects RX4 yX4_performAdding yX4_performAdding, Cond.code yX4_performAdding cX4_performAdding 5 none, Cond.methodLink RX4 115 yX4_settle, Cond.instanceMethod yX4_settle, Cond.selects RX4 yX4_settle yX4_settle, Cond.code yX4_settle cX4_settle 4 none, Cond.methodLink RX4 119 yX4_has, Cond.instanceMethod yX4_has, Cond.selects RX4 yX4_has yX4_has, Cond.code yX4_has cX4_has 2 (some .boolean), Cond.methodLink RX4 130 yX4_childWithLabelLike, Cond.instanceMethod yX4_childWithLabelLike, Cond.selects RX4 yX4_childWithLabelLike yX4_childWithLabelLike]
def wsX5_carry_r4 : List Cond := [Cond.code yX4_childWithLabelLike cX4_childWithLabelLike 5 (some .int), Cond.methodLink RX4 148 yX4_areLike, Cond.static yX4_areLike, Cond.code yX4_areLike cX4_areLike 2 (some .boolean), Cond.methodLink RX4 105 yX4_performSetting, Cond.instanceMethod yX4_performSetting, Cond.selects RX4 yX4_performSetting yX4_performSetting, Cond.code yX4_performSetting cX4_performSetting 4 none, Cond.methodLink RX4 123 yX4_mayHold, Cond.instanceMethod yX4_mayHold, Cond.selects RX4 yX4_mayHold yX4_mayHold, Cond.code yX4_mayHold cX4_mayHold 3 (some .boolean), Cond.fieldLink RX4 39 "EntryMasters$Tree" "classes" "LEntryMasters$Classes;", Cond.methodLink RX4 134 yX0_allows, Cond.instanceMethod yX0_allows, Cond.selects RX0 yX0_allows yX0_allows, Cond.initialized RX0, Cond.code yX0_allows cX0_allows 3 (some .boolean), Cond.fieldLink RX0 15 "EntryMasters$Classes" "allowed" "[I", Cond.methodLink RX0 28 yX0_hasBit, Cond.static yX0_hasBit, Cond.code yX0_hasBit cX0_hasBit 2 (some .boolean), Cond.methodLink RX4 109 yX4_performMoving, Cond.instanceMethod yX4_performMoving]
def wsX5_carry_r5 : List Cond := [Cond.selects RX4 yX4_performMoving yX4_performMoving, Cond.code yX4_performMoving cX4_performMoving 4 none, Cond.methodLink RX4 127 yX4_isAtOrBelow, Cond.instanceMethod yX4_isAtOrBelow, Cond.selects RX4 yX4_isAtOrBelow yX4_isAtOrBelow, Cond.code yX4_isAtOrBelow cX4_isAtOrBelow 5 (some .boolean), Cond.methodLink RX4 145 yX4_parentAt, Cond.instanceMethod yX4_parentAt, Cond.selects RX4 yX4_parentAt yX4_parentAt, Cond.code yX4_parentAt cX4_parentAt 2 (some .int), Cond.methodLink RX4 112 yX4_performDeleting, Cond.instanceMethod yX4_performDeleting, Cond.selects RX4 yX4_performDeleting yX4_performDeleting, Cond.code yX4_performDeleting cX4_performDeleting 3 none]
def wsX5_carry : List Cond := .code yX5_carry cX5_carry 4 (some .boolean) :: ((wsX5_carry_r1 ++ (wsX5_carry_r2 ++ (wsX5_carry_r3 ++ (wsX5_carry_r4 ++ wsX5_carry_r5)))) ++ wsX50 ++ wsX20 ++ wsX40 ++ wsX00 ++ (vx_atS RX5 173 "java/lang/IndexOutOfBoundsException" ["java/lang/RuntimeException", "java/lang/Exception"]).filter goodWord)
def wsX5_changes : List Cond := .code yX5_changes cX5_changes 1 (some .int) :: ([.fieldLink RX5 19 "EntryMasters" "log" "LEntryMasters$Log;"] ++ wsX50 ++ wsX20)
def wsX5_timeOf : List Cond := .code yX5_timeOf cX5_timeOf 2 (some .int) :: ([.fieldLink RX5 19 "EntryMasters" "log" "LEntryMasters$Log;", .methodLink RX5 49 yX5_checkIndex, .static yX5_checkIndex, .initialized RX5, .code yX5_checkIndex cX5_checkIndex 2 none, .classLink RX5 169 "java/lang/IndexOutOfBoundsException", .initialized "java/lang/IndexOutOfBoundsException", .methodLink RX5 132 yX2_timeAt, .instanceMethod yX2_timeAt, .selects RX2 yX2_timeAt yX2_timeAt, .initialized RX2, .code yX2_timeAt cX2_timeAt 2 (some .int), .fieldLink RX2 15 "EntryMasters$Log" "stamps" "[I", .static yX5_at, .code yX5_at cX5_at 2 (some .int)] ++ wsX50 ++ wsX20 ++ (vx_atS RX5 173 "java/lang/IndexOutOfBoundsException" ["java/lang/RuntimeException", "java/lang/Exception"]).filter goodWord)
def wsX5_entries : List Cond := .code yX5_entries cX5_entries 2 (some .int) :: ([.methodLink RX5 71 yX5_treeOf, .instanceMethod yX5_treeOf, .selects RX5 yX5_treeOf yX5_treeOf, .initialized RX5, .code yX5_treeOf cX5_treeOf 2 (some (.object "EntryMasters$Tree")), .fieldLink RX5 28 "EntryMasters" "firstTree" "LEntryMasters$Tree;", .fieldLink RX5 32 "EntryMasters" "secondTree" "LEntryMasters$Tree;", .methodLink RX5 49 yX5_checkIndex, .static yX5_checkIndex, .code yX5_checkIndex cX5_checkIndex 2 none, .classLink RX5 169 "java/lang/IndexOutOfBoundsException", .initialized "java/lang/IndexOutOfBoundsException"] ++ wsX40 ++ wsX50 ++ (vx_atS RX5 173 "java/lang/IndexOutOfBoundsException" ["java/lang/RuntimeException", "java/lang/Exception"]).filter goodWord)
def wsX5_isThere : List Cond := .code yX5_isThere cX5_isThere 3 (some .boolean) :: ([.methodLink RX5 71 yX5_treeOf, .instanceMethod yX5_treeOf, .selects RX5 yX5_treeOf yX5_treeOf, .initialized RX5, .code yX5_treeOf cX5_treeOf 2 (some (.object "EntryMasters$Tree")), .fieldLink RX5 28 "EntryMasters" "firstTree" "LEntryMasters$Tree;", .fieldLink RX5 32 "EntryMasters" "secondTree" "LEntryMasters$Tree;", .methodLink RX5 49 yX5_checkIndex, .static yX5_checkIndex, .code yX5_checkIndex cX5_checkIndex 2 none, .classLink RX5 169 "java/lang/IndexOutOfBoundsException", .initialized "java/lang/IndexOutOfBoundsException", .methodLink RX5 135 yX4_has, .instanceMethod yX4_has, .selects RX4 yX4_has yX4_has, .initialized RX4, .code yX4_has cX4_has 2 (some .boolean), .fieldLink RX4 15 "EntryMasters$Tree" "there" "[Z"] ++ wsX50 ++ wsX40 ++ (vx_atS RX5 173 "java/lang/IndexOutOfBoundsException" ["java/lang/RuntimeException", "java/lang/Exception"]).filter goodWord)
def wsX5_parentOf_r1 : List Cond := [Cond.methodLink RX5 71 yX5_treeOf, Cond.instanceMethod yX5_treeOf, Cond.selects RX5 yX5_treeOf yX5_treeOf, Cond.initialized RX5, Cond.code yX5_treeOf cX5_treeOf 2 (some (.object "EntryMasters$Tree")), Cond.fieldLink RX5 28 "EntryMasters" "firstTree" "LEntryMasters$Tree;", Cond.fieldLink RX5 32 "EntryMasters" "secondTree" "LEntryMasters$Tree;", Cond.methodLink RX5 49 yX5_checkIndex, Cond.static yX5_checkIndex, Cond.code yX5_checkIndex cX5_checkIndex 2 none, Cond.classLink RX5 169 "java/lang/IndexOutOfBoundsException", Cond.initialized "java/lang/IndexOutOfBoundsException", Cond.methodLink RX5 75 yX5_checkEntry, Cond.static yX5_checkEntry, Cond.code yX5_checkEntry cX5_checkEntry 2 none, Cond.methodLink RX5 135 yX4_has, Cond.instanceMethod yX4_has, Cond.selects RX4 yX4_has yX4_has, Cond.initialized RX4, Cond.code yX4_has cX4_has 2 (some .boolean), Cond.fieldLink RX4 15 "EntryMasters$Tree" "there" "[Z", Cond.methodLink RX5 116 yX4_parentAt, Cond.instanceMethod yX4_parentAt, Cond.selects RX4 yX4_parentAt yX4_parentAt]
def wsX5_parentOf_r2 : List Cond := [Cond.code yX4_parentAt cX4_parentAt 2 (some .int), Cond.fieldLink RX4 19 "EntryMasters$Tree" "parents" "[I", Cond.static yX5_at, Cond.code yX5_at cX5_at 2 (some .int)]
def wsX5_parentOf : List Cond := .code yX5_parentOf cX5_parentOf 4 (some .int) :: ((wsX5_parentOf_r1 ++ wsX5_parentOf_r2) ++ wsX50 ++ wsX40 ++ (vx_atS RX5 173 "java/lang/IndexOutOfBoundsException" ["java/lang/RuntimeException", "java/lang/Exception"]).filter goodWord)
def wsX5_labelOf_r1 : List Cond := [Cond.methodLink RX5 71 yX5_treeOf, Cond.instanceMethod yX5_treeOf, Cond.selects RX5 yX5_treeOf yX5_treeOf, Cond.initialized RX5, Cond.code yX5_treeOf cX5_treeOf 2 (some (.object "EntryMasters$Tree")), Cond.fieldLink RX5 28 "EntryMasters" "firstTree" "LEntryMasters$Tree;", Cond.fieldLink RX5 32 "EntryMasters" "secondTree" "LEntryMasters$Tree;", Cond.methodLink RX5 49 yX5_checkIndex, Cond.static yX5_checkIndex, Cond.code yX5_checkIndex cX5_checkIndex 2 none, Cond.classLink RX5 169 "java/lang/IndexOutOfBoundsException", Cond.initialized "java/lang/IndexOutOfBoundsException", Cond.methodLink RX5 75 yX5_checkEntry, Cond.static yX5_checkEntry, Cond.code yX5_checkEntry cX5_checkEntry 2 none, Cond.methodLink RX5 135 yX4_has, Cond.instanceMethod yX4_has, Cond.selects RX4 yX4_has yX4_has, Cond.initialized RX4, Cond.code yX4_has cX4_has 2 (some .boolean), Cond.fieldLink RX4 15 "EntryMasters$Tree" "there" "[Z", Cond.methodLink RX5 138 yX4_labelAt, Cond.instanceMethod yX4_labelAt, Cond.selects RX4 yX4_labelAt yX4_labelAt]
def wsX5_labelOf_r2 : List Cond := [Cond.code yX4_labelAt cX4_labelAt 2 (some .int), Cond.fieldLink RX4 22 "EntryMasters$Tree" "labels" "[I", Cond.static yX5_at, Cond.code yX5_at cX5_at 2 (some .int)]
def wsX5_labelOf : List Cond := .code yX5_labelOf cX5_labelOf 4 (some .int) :: ((wsX5_labelOf_r1 ++ wsX5_labelOf_r2) ++ wsX50 ++ wsX40 ++ (vx_atS RX5 173 "java/lang/IndexOutOfBoundsException" ["java/lang/RuntimeException", "java/lang/Exception"]).filter goodWord)
def wsX5_value_r1 : List Cond := [Cond.methodLink RX5 71 yX5_treeOf, Cond.instanceMethod yX5_treeOf, Cond.selects RX5 yX5_treeOf yX5_treeOf, Cond.initialized RX5, Cond.code yX5_treeOf cX5_treeOf 2 (some (.object "EntryMasters$Tree")), Cond.fieldLink RX5 28 "EntryMasters" "firstTree" "LEntryMasters$Tree;", Cond.fieldLink RX5 32 "EntryMasters" "secondTree" "LEntryMasters$Tree;", Cond.methodLink RX5 49 yX5_checkIndex, Cond.static yX5_checkIndex, Cond.code yX5_checkIndex cX5_checkIndex 2 none, Cond.classLink RX5 169 "java/lang/IndexOutOfBoundsException", Cond.initialized "java/lang/IndexOutOfBoundsException", Cond.methodLink RX5 75 yX5_checkEntry, Cond.static yX5_checkEntry, Cond.code yX5_checkEntry cX5_checkEntry 2 none, Cond.methodLink RX5 135 yX4_has, Cond.instanceMethod yX4_has, Cond.selects RX4 yX4_has yX4_has, Cond.initialized RX4, Cond.code yX4_has cX4_has 2 (some .boolean), Cond.fieldLink RX4 15 "EntryMasters$Tree" "there" "[Z", Cond.methodLink RX5 104 yX4_valueAt, Cond.instanceMethod yX4_valueAt, Cond.selects RX4 yX4_valueAt yX4_valueAt]
def wsX5_value_r2 : List Cond := [Cond.code yX4_valueAt cX4_valueAt 3 (some .int), Cond.fieldLink RX4 28 "EntryMasters$Tree" "values" "[I", Cond.static yX5_at, Cond.code yX5_at cX5_at 2 (some .int)]
def wsX5_value : List Cond := .code yX5_value cX5_value 5 (some .int) :: ((wsX5_value_r1 ++ wsX5_value_r2) ++ wsX50 ++ wsX40 ++ (vx_atS RX5 173 "java/lang/IndexOutOfBoundsException" ["java/lang/RuntimeException", "java/lang/Exception"]).filter goodWord)
def wsX5_isWhole_r1 : List Cond := [Cond.methodLink RX5 71 yX5_treeOf, Cond.instanceMethod yX5_treeOf, Cond.selects RX5 yX5_treeOf yX5_treeOf, Cond.initialized RX5, Cond.code yX5_treeOf cX5_treeOf 2 (some (.object "EntryMasters$Tree")), Cond.fieldLink RX5 28 "EntryMasters" "firstTree" "LEntryMasters$Tree;", Cond.fieldLink RX5 32 "EntryMasters" "secondTree" "LEntryMasters$Tree;", Cond.methodLink RX5 49 yX5_checkIndex, Cond.static yX5_checkIndex, Cond.code yX5_checkIndex cX5_checkIndex 2 none, Cond.classLink RX5 169 "java/lang/IndexOutOfBoundsException", Cond.initialized "java/lang/IndexOutOfBoundsException", Cond.methodLink RX5 75 yX5_checkEntry, Cond.static yX5_checkEntry, Cond.code yX5_checkEntry cX5_checkEntry 2 none, Cond.methodLink RX5 135 yX4_has, Cond.instanceMethod yX4_has, Cond.selects RX4 yX4_has yX4_has, Cond.initialized RX4, Cond.code yX4_has cX4_has 2 (some .boolean), Cond.fieldLink RX4 15 "EntryMasters$Tree" "there" "[Z", Cond.methodLink RX5 141 yX4_hasAllNeeded, Cond.instanceMethod yX4_hasAllNeeded, Cond.selects RX4 yX4_hasAllNeeded yX4_hasAllNeeded]
def wsX5_isWhole_r2 : List Cond := [Cond.code yX4_hasAllNeeded cX4_hasAllNeeded 4 (some .boolean), Cond.fieldLink RX4 25 "EntryMasters$Tree" "classesOfEntries" "[I", Cond.fieldLink RX4 39 "EntryMasters$Tree" "classes" "LEntryMasters$Classes;", Cond.static yX5_at, Cond.code yX5_at cX5_at 2 (some .int), Cond.methodLink RX4 139 yX0_needs, Cond.instanceMethod yX0_needs, Cond.selects RX0 yX0_needs yX0_needs, Cond.initialized RX0, Cond.code yX0_needs cX0_needs 3 (some .boolean), Cond.fieldLink RX0 9 "EntryMasters$Classes" "needed" "[I", Cond.methodLink RX0 28 yX0_hasBit, Cond.static yX0_hasBit, Cond.code yX0_hasBit cX0_hasBit 2 (some .boolean), Cond.methodLink RX4 142 yX4_valueAt, Cond.instanceMethod yX4_valueAt, Cond.selects RX4 yX4_valueAt yX4_valueAt, Cond.code yX4_valueAt cX4_valueAt 3 (some .int), Cond.fieldLink RX4 28 "EntryMasters$Tree" "values" "[I"]
def wsX5_isWhole : List Cond := .code yX5_isWhole cX5_isWhole 4 (some .boolean) :: ((wsX5_isWhole_r1 ++ wsX5_isWhole_r2) ++ wsX50 ++ wsX40 ++ wsX00 ++ (vx_atS RX5 173 "java/lang/IndexOutOfBoundsException" ["java/lang/RuntimeException", "java/lang/Exception"]).filter goodWord)
def wsX5_find_r1 : List Cond := [Cond.methodLink RX5 71 yX5_treeOf, Cond.instanceMethod yX5_treeOf, Cond.selects RX5 yX5_treeOf yX5_treeOf, Cond.initialized RX5, Cond.code yX5_treeOf cX5_treeOf 2 (some (.object "EntryMasters$Tree")), Cond.fieldLink RX5 28 "EntryMasters" "firstTree" "LEntryMasters$Tree;", Cond.fieldLink RX5 32 "EntryMasters" "secondTree" "LEntryMasters$Tree;", Cond.methodLink RX5 49 yX5_checkIndex, Cond.static yX5_checkIndex, Cond.code yX5_checkIndex cX5_checkIndex 2 none, Cond.classLink RX5 169 "java/lang/IndexOutOfBoundsException", Cond.initialized "java/lang/IndexOutOfBoundsException", Cond.methodLink RX5 75 yX5_checkEntry, Cond.static yX5_checkEntry, Cond.code yX5_checkEntry cX5_checkEntry 2 none, Cond.methodLink RX5 135 yX4_has, Cond.instanceMethod yX4_has, Cond.selects RX4 yX4_has yX4_has, Cond.initialized RX4, Cond.code yX4_has cX4_has 2 (some .boolean), Cond.fieldLink RX4 15 "EntryMasters$Tree" "there" "[Z", Cond.methodLink RX5 53 yX5_checkArgument, Cond.static yX5_checkArgument, Cond.code yX5_checkArgument cX5_checkArgument 3 none]
def wsX5_find_r2 : List Cond := [Cond.classLink RX5 199 "java/lang/IllegalArgumentException", Cond.initialized "java/lang/IllegalArgumentException", Cond.methodLink RX5 144 yX4_childWithLabelLike, Cond.instanceMethod yX4_childWithLabelLike, Cond.selects RX4 yX4_childWithLabelLike yX4_childWithLabelLike, Cond.code yX4_childWithLabelLike cX4_childWithLabelLike 5 (some .int), Cond.fieldLink RX4 19 "EntryMasters$Tree" "parents" "[I", Cond.fieldLink RX4 22 "EntryMasters$Tree" "labels" "[I", Cond.methodLink RX4 148 yX4_areLike, Cond.static yX4_areLike, Cond.code yX4_areLike cX4_areLike 2 (some .boolean)]
def wsX5_find : List Cond := .code yX5_find cX5_find 5 (some .int) :: ((wsX5_find_r1 ++ wsX5_find_r2) ++ wsX50 ++ wsX40 ++ (vx_atS RX5 173 "java/lang/IndexOutOfBoundsException" ["java/lang/RuntimeException", "java/lang/Exception"]).filter goodWord ++ (vx_atS RX5 203 "java/lang/IllegalArgumentException" ["java/lang/RuntimeException", "java/lang/Exception"]).filter goodWord)
def wsX5_areAlike_r1 : List Cond := [Cond.fieldLink RX5 28 "EntryMasters" "firstTree" "LEntryMasters$Tree;", Cond.fieldLink RX5 32 "EntryMasters" "secondTree" "LEntryMasters$Tree;", Cond.methodLink RX5 148 yX4_isSameAs, Cond.instanceMethod yX4_isSameAs, Cond.selects RX4 yX4_isSameAs yX4_isSameAs, Cond.initialized RX4, Cond.code yX4_isSameAs cX4_isSameAs 3 (some .boolean), Cond.fieldLink RX4 15 "EntryMasters$Tree" "there" "[Z", Cond.methodLink RX4 151 yX4_hasSameEntry, Cond.instanceMethod yX4_hasSameEntry, Cond.selects RX4 yX4_hasSameEntry yX4_hasSameEntry, Cond.code yX4_hasSameEntry cX4_hasSameEntry 4 (some .boolean), Cond.fieldLink RX4 25 "EntryMasters$Tree" "classesOfEntries" "[I", Cond.methodLink RX4 142 yX4_valueAt, Cond.instanceMethod yX4_valueAt, Cond.selects RX4 yX4_valueAt yX4_valueAt, Cond.code yX4_valueAt cX4_valueAt 3 (some .int), Cond.fieldLink RX4 28 "EntryMasters$Tree" "values" "[I", Cond.static yX5_at, Cond.initialized RX5, Cond.code yX5_at cX5_at 2 (some .int), Cond.methodLink RX4 145 yX4_parentAt, Cond.instanceMethod yX4_parentAt, Cond.selects RX4 yX4_parentAt yX4_parentAt]
def wsX5_areAlike_r2 : List Cond := [Cond.code yX4_parentAt cX4_parentAt 2 (some .int), Cond.fieldLink RX4 19 "EntryMasters$Tree" "parents" "[I", Cond.methodLink RX4 155 yX4_labelAt, Cond.instanceMethod yX4_labelAt, Cond.selects RX4 yX4_labelAt yX4_labelAt, Cond.code yX4_labelAt cX4_labelAt 2 (some .int), Cond.fieldLink RX4 22 "EntryMasters$Tree" "labels" "[I"]
def wsX5_areAlike : List Cond := .code yX5_areAlike cX5_areAlike 1 (some .boolean) :: ((wsX5_areAlike_r1 ++ wsX5_areAlike_r2) ++ wsX50 ++ wsX40)
def wsX5_setRight : List Cond := .code yX5_setRight cX5_setRight 4 none :: ([.fieldLink RX5 38 "EntryMasters" "marks" "LEntryMasters$Marks;", .methodLink RX5 49 yX5_checkIndex, .static yX5_checkIndex, .initialized RX5, .code yX5_checkIndex cX5_checkIndex 2 none, .classLink RX5 169 "java/lang/IndexOutOfBoundsException", .initialized "java/lang/IndexOutOfBoundsException", .methodLink RX5 53 yX5_checkArgument, .static yX5_checkArgument, .code yX5_checkArgument cX5_checkArgument 3 none, .classLink RX5 199 "java/lang/IllegalArgumentException", .initialized "java/lang/IllegalArgumentException", .methodLink RX5 152 yX3_putRight, .instanceMethod yX3_putRight, .selects RX3 yX3_putRight yX3_putRight, .initialized RX3, .code yX3_putRight cX3_putRight 4 none, .fieldLink RX3 9 "EntryMasters$Marks" "rights" "[I", .static yX5_put, .code yX5_put cX5_put 3 none] ++ wsX50 ++ wsX30 ++ (vx_atS RX5 173 "java/lang/IndexOutOfBoundsException" ["java/lang/RuntimeException", "java/lang/Exception"]).filter goodWord ++ (vx_atS RX5 203 "java/lang/IllegalArgumentException" ["java/lang/RuntimeException", "java/lang/Exception"]).filter goodWord)
def wsX5_refer : List Cond := .code yX5_refer cX5_refer 3 none :: ([.fieldLink RX5 38 "EntryMasters" "marks" "LEntryMasters$Marks;", .methodLink RX5 49 yX5_checkIndex, .static yX5_checkIndex, .initialized RX5, .code yX5_checkIndex cX5_checkIndex 2 none, .classLink RX5 169 "java/lang/IndexOutOfBoundsException", .initialized "java/lang/IndexOutOfBoundsException", .methodLink RX5 155 yX3_putReferral, .instanceMethod yX3_putReferral, .selects RX3 yX3_putReferral yX3_putReferral, .initialized RX3, .code yX3_putReferral cX3_putReferral 3 none, .fieldLink RX3 15 "EntryMasters$Marks" "referrals" "[Z"] ++ wsX50 ++ wsX30 ++ (vx_atS RX5 173 "java/lang/IndexOutOfBoundsException" ["java/lang/RuntimeException", "java/lang/Exception"]).filter goodWord)
def wsX5_checkRoomForFilter : List Cond := .code yX5_checkRoomForFilter cX5_checkRoomForFilter 1 none :: ([.classLink RX5 61 "java/lang/IllegalStateException", .initialized "java/lang/IllegalStateException", .fieldLink RX5 45 "EntryMasters" "filters" "LEntryMasters$Filters;"] ++ wsX50 ++ wsX10 ++ (vx_atS RX5 65 "java/lang/IllegalStateException" ["java/lang/RuntimeException", "java/lang/Exception"]).filter goodWord)
def wsX5_test : List Cond := .code yX5_test cX5_test 4 (some .int) :: ([.fieldLink RX5 45 "EntryMasters" "filters" "LEntryMasters$Filters;", .methodLink RX5 53 yX5_checkArgument, .static yX5_checkArgument, .initialized RX5, .code yX5_checkArgument cX5_checkArgument 3 none, .classLink RX5 199 "java/lang/IllegalArgumentException", .initialized "java/lang/IllegalArgumentException", .methodLink RX5 159 yX5_checkRoomForFilter, .instanceMethod yX5_checkRoomForFilter, .selects RX5 yX5_checkRoomForFilter yX5_checkRoomForFilter, .code yX5_checkRoomForFilter cX5_checkRoomForFilter 1 none, .classLink RX5 61 "java/lang/IllegalStateException", .initialized "java/lang/IllegalStateException", .methodLink RX5 162 yX1_append, .instanceMethod yX1_append, .selects RX1 yX1_append yX1_append, .initialized RX1, .code yX1_append cX1_append 5 (some .int), .fieldLink RX1 24 "EntryMasters$Filters" "count" "I", .fieldLink RX1 9 "EntryMasters$Filters" "kinds" "[I", .fieldLink RX1 15 "EntryMasters$Filters" "firsts" "[I", .fieldLink RX1 18 "EntryMasters$Filters" "seconds" "[I", .static yX5_put, .code yX5_put cX5_put 3 none] ++ wsX50 ++ wsX10 ++ (vx_atS RX5 203 "java/lang/IllegalArgumentException" ["java/lang/RuntimeException", "java/lang/Exception"]).filter goodWord ++ (vx_atS RX5 65 "java/lang/IllegalStateException" ["java/lang/RuntimeException", "java/lang/Exception"]).filter goodWord)
def wsX5_join_r1 : List Cond := [Cond.fieldLink RX5 45 "EntryMasters" "filters" "LEntryMasters$Filters;", Cond.methodLink RX5 49 yX5_checkIndex, Cond.static yX5_checkIndex, Cond.initialized RX5, Cond.code yX5_checkIndex cX5_checkIndex 2 none, Cond.classLink RX5 169 "java/lang/IndexOutOfBoundsException", Cond.initialized "java/lang/IndexOutOfBoundsException", Cond.methodLink RX5 53 yX5_checkArgument, Cond.static yX5_checkArgument, Cond.code yX5_checkArgument cX5_checkArgument 3 none, Cond.classLink RX5 199 "java/lang/IllegalArgumentException", Cond.initialized "java/lang/IllegalArgumentException", Cond.methodLink RX5 159 yX5_checkRoomForFilter, Cond.instanceMethod yX5_checkRoomForFilter, Cond.selects RX5 yX5_checkRoomForFilter yX5_checkRoomForFilter, Cond.code yX5_checkRoomForFilter cX5_checkRoomForFilter 1 none, Cond.classLink RX5 61 "java/lang/IllegalStateException", Cond.initialized "java/lang/IllegalStateException", Cond.methodLink RX5 162 yX1_append, Cond.instanceMethod yX1_append, Cond.selects RX1 yX1_append yX1_append, Cond.initialized RX1, Cond.code yX1_append cX1_append 5 (some .int), Cond.fieldLink RX1 24 "EntryMasters$Filters" "count" "I"]
def wsX5_join_r2 : List Cond := [Cond.fieldLink RX1 9 "EntryMasters$Filters" "kinds" "[I", Cond.fieldLink RX1 15 "EntryMasters$Filters" "firsts" "[I", Cond.fieldLink RX1 18 "EntryMasters$Filters" "seconds" "[I", Cond.static yX5_put, Cond.code yX5_put cX5_put 3 none]
def wsX5_join : List Cond := .code yX5_join cX5_join 4 (some .int) :: ((wsX5_join_r1 ++ wsX5_join_r2) ++ wsX50 ++ wsX10 ++ (vx_atS RX5 173 "java/lang/IndexOutOfBoundsException" ["java/lang/RuntimeException", "java/lang/Exception"]).filter goodWord ++ (vx_atS RX5 203 "java/lang/IllegalArgumentException" ["java/lang/RuntimeException", "java/lang/Exception"]).filter goodWord ++ (vx_atS RX5 65 "java/lang/IllegalStateException" ["java/lang/RuntimeException", "java/lang/Exception"]).filter goodWord)
def wsX5_holds_r1 : List Cond := [Cond.fieldLink RX5 45 "EntryMasters" "filters" "LEntryMasters$Filters;", Cond.methodLink RX5 71 yX5_treeOf, Cond.instanceMethod yX5_treeOf, Cond.selects RX5 yX5_treeOf yX5_treeOf, Cond.initialized RX5, Cond.code yX5_treeOf cX5_treeOf 2 (some (.object "EntryMasters$Tree")), Cond.fieldLink RX5 28 "EntryMasters" "firstTree" "LEntryMasters$Tree;", Cond.fieldLink RX5 32 "EntryMasters" "secondTree" "LEntryMasters$Tree;", Cond.methodLink RX5 49 yX5_checkIndex, Cond.static yX5_checkIndex, Cond.code yX5_checkIndex cX5_checkIndex 2 none, Cond.classLink RX5 169 "java/lang/IndexOutOfBoundsException", Cond.initialized "java/lang/IndexOutOfBoundsException", Cond.methodLink RX5 75 yX5_checkEntry, Cond.static yX5_checkEntry, Cond.code yX5_checkEntry cX5_checkEntry 2 none, Cond.methodLink RX5 135 yX4_has, Cond.instanceMethod yX4_has, Cond.selects RX4 yX4_has yX4_has, Cond.initialized RX4, Cond.code yX4_has cX4_has 2 (some .boolean), Cond.fieldLink RX4 15 "EntryMasters$Tree" "there" "[Z", Cond.methodLink RX5 165 yX1_truthFor, Cond.instanceMethod yX1_truthFor]
def wsX5_holds_r2 : List Cond := [Cond.selects RX1 yX1_truthFor yX1_truthFor, Cond.initialized RX1, Cond.code yX1_truthFor cX1_truthFor 8 (some .int), Cond.fieldLink RX1 9 "EntryMasters$Filters" "kinds" "[I", Cond.fieldLink RX1 15 "EntryMasters$Filters" "firsts" "[I", Cond.fieldLink RX1 18 "EntryMasters$Filters" "seconds" "[I", Cond.fieldLink RX1 21 "EntryMasters$Filters" "truths" "[I", Cond.methodLink RX1 32 yX1_truthOfTest, Cond.static yX1_truthOfTest, Cond.code yX1_truthOfTest cX1_truthOfTest 6 (some .int), Cond.methodLink RX1 44 yX4_mayHold, Cond.instanceMethod yX4_mayHold, Cond.selects RX4 yX4_mayHold yX4_mayHold, Cond.code yX4_mayHold cX4_mayHold 3 (some .boolean), Cond.fieldLink RX4 39 "EntryMasters$Tree" "classes" "LEntryMasters$Classes;", Cond.fieldLink RX4 25 "EntryMasters$Tree" "classesOfEntries" "[I", Cond.static yX5_at, Cond.code yX5_at cX5_at 2 (some .int), Cond.methodLink RX4 134 yX0_allows, Cond.instanceMethod yX0_allows, Cond.selects RX0 yX0_allows yX0_allows, Cond.initialized RX0, Cond.code yX0_allows cX0_allows 3 (some .boolean), Cond.fieldLink RX0 15 "EntryMasters$Classes" "allowed" "[I"]
def wsX5_holds_r3 : List Cond := [Cond.methodLink RX0 28 yX0_hasBit, Cond.static yX0_hasBit, Cond.code yX0_hasBit cX0_hasBit 2 (some .boolean), Cond.methodLink RX1 50 yX4_valueAt, Cond.instanceMethod yX4_valueAt, Cond.selects RX4 yX4_valueAt yX4_valueAt, Cond.code yX4_valueAt cX4_valueAt 3 (some .int), Cond.fieldLink RX4 28 "EntryMasters$Tree" "values" "[I", Cond.methodLink RX1 40 yX1_truthOfJoin, Cond.static yX1_truthOfJoin, Cond.code yX1_truthOfJoin cX1_truthOfJoin 3 (some .int), Cond.methodLink RX1 54 yX1_both, Cond.static yX1_both, Cond.code yX1_both cX1_both 2 (some .int), Cond.methodLink RX1 57 yX1_opposite, Cond.static yX1_opposite, Cond.code yX1_opposite cX1_opposite 1 (some .int)]
def wsX5_holds : List Cond := .code yX5_holds cX5_holds 5 (some .int) :: ((wsX5_holds_r1 ++ (wsX5_holds_r2 ++ wsX5_holds_r3)) ++ wsX50 ++ wsX10 ++ wsX40 ++ wsX00 ++ (vx_atS RX5 173 "java/lang/IndexOutOfBoundsException" ["java/lang/RuntimeException", "java/lang/Exception"]).filter goodWord)
def wsX5_isFound_r1 : List Cond := [Cond.fieldLink RX5 45 "EntryMasters" "filters" "LEntryMasters$Filters;", Cond.fieldLink RX5 38 "EntryMasters" "marks" "LEntryMasters$Marks;", Cond.methodLink RX5 165 yX1_truthFor, Cond.instanceMethod yX1_truthFor, Cond.selects RX1 yX1_truthFor yX1_truthFor, Cond.initialized RX1, Cond.code yX1_truthFor cX1_truthFor 8 (some .int), Cond.fieldLink RX1 9 "EntryMasters$Filters" "kinds" "[I", Cond.fieldLink RX1 15 "EntryMasters$Filters" "firsts" "[I", Cond.fieldLink RX1 18 "EntryMasters$Filters" "seconds" "[I", Cond.fieldLink RX1 21 "EntryMasters$Filters" "truths" "[I", Cond.methodLink RX1 32 yX1_truthOfTest, Cond.static yX1_truthOfTest, Cond.code yX1_truthOfTest cX1_truthOfTest 6 (some .int), Cond.methodLink RX1 44 yX4_mayHold, Cond.instanceMethod yX4_mayHold, Cond.selects RX4 yX4_mayHold yX4_mayHold, Cond.initialized RX4, Cond.code yX4_mayHold cX4_mayHold 3 (some .boolean), Cond.fieldLink RX4 39 "EntryMasters$Tree" "classes" "LEntryMasters$Classes;", Cond.fieldLink RX4 25 "EntryMasters$Tree" "classesOfEntries" "[I", Cond.static yX5_at, Cond.initialized RX5, Cond.code yX5_at cX5_at 2 (some .int)]
def wsX5_isFound_r2 : List Cond := [Cond.methodLink RX4 134 yX0_allows, Cond.instanceMethod yX0_allows, Cond.selects RX0 yX0_allows yX0_allows, Cond.initialized RX0, Cond.code yX0_allows cX0_allows 3 (some .boolean), Cond.fieldLink RX0 15 "EntryMasters$Classes" "allowed" "[I", Cond.methodLink RX0 28 yX0_hasBit, Cond.static yX0_hasBit, Cond.code yX0_hasBit cX0_hasBit 2 (some .boolean), Cond.methodLink RX1 50 yX4_valueAt, Cond.instanceMethod yX4_valueAt, Cond.selects RX4 yX4_valueAt yX4_valueAt, Cond.code yX4_valueAt cX4_valueAt 3 (some .int), Cond.fieldLink RX4 28 "EntryMasters$Tree" "values" "[I", Cond.methodLink RX1 40 yX1_truthOfJoin, Cond.static yX1_truthOfJoin, Cond.code yX1_truthOfJoin cX1_truthOfJoin 3 (some .int), Cond.methodLink RX1 54 yX1_both, Cond.static yX1_both, Cond.code yX1_both cX1_both 2 (some .int), Cond.methodLink RX1 57 yX1_opposite, Cond.static yX1_opposite, Cond.code yX1_opposite cX1_opposite 1 (some .int), Cond.methodLink RX5 186 yX3_rightThatCounts]
def wsX5_isFound_r3 : List Cond := [Cond.instanceMethod yX3_rightThatCounts, Cond.selects RX3 yX3_rightThatCounts yX3_rightThatCounts, Cond.initialized RX3, Cond.code yX3_rightThatCounts cX3_rightThatCounts 7 (some .int), Cond.fieldLink RX3 9 "EntryMasters$Marks" "rights" "[I", Cond.methodLink RX3 33 yX4_parentAt, Cond.instanceMethod yX4_parentAt, Cond.selects RX4 yX4_parentAt yX4_parentAt, Cond.code yX4_parentAt cX4_parentAt 2 (some .int), Cond.fieldLink RX4 19 "EntryMasters$Tree" "parents" "[I"]
def wsX5_isFound : List Cond := .code yX5_isFound cX5_isFound 5 (some .boolean) :: ((wsX5_isFound_r1 ++ (wsX5_isFound_r2 ++ wsX5_isFound_r3)) ++ wsX50 ++ wsX10 ++ wsX40 ++ wsX00 ++ wsX30)
def wsX5_nextInScope_r1 : List Cond := [Cond.fieldLink RX5 38 "EntryMasters" "marks" "LEntryMasters$Marks;", Cond.methodLink RX5 189 yX4_orderUnderParent, Cond.instanceMethod yX4_orderUnderParent, Cond.selects RX4 yX4_orderUnderParent yX4_orderUnderParent, Cond.initialized RX4, Cond.code yX4_orderUnderParent cX4_orderUnderParent 3 (some .int), Cond.methodLink RX4 155 yX4_labelAt, Cond.instanceMethod yX4_labelAt, Cond.selects RX4 yX4_labelAt yX4_labelAt, Cond.code yX4_labelAt cX4_labelAt 2 (some .int), Cond.fieldLink RX4 22 "EntryMasters$Tree" "labels" "[I", Cond.static yX5_at, Cond.initialized RX5, Cond.code yX5_at cX5_at 2 (some .int), Cond.methodLink RX5 174 yX4_childAfter, Cond.instanceMethod yX4_childAfter, Cond.selects RX4 yX4_childAfter yX4_childAfter, Cond.code yX4_childAfter cX4_childAfter 6 (some .int), Cond.fieldLink RX4 19 "EntryMasters$Tree" "parents" "[I", Cond.methodLink RX4 158 yX3_isReferral, Cond.instanceMethod yX3_isReferral, Cond.selects RX3 yX3_isReferral yX3_isReferral, Cond.initialized RX3, Cond.code yX3_isReferral cX3_isReferral 2 (some .boolean)]
def wsX5_nextInScope_r2 : List Cond := [Cond.fieldLink RX3 15 "EntryMasters$Marks" "referrals" "[Z", Cond.methodLink RX4 163 yX4_orderUnderParent, Cond.methodLink RX5 192 yX4_entryAfter, Cond.instanceMethod yX4_entryAfter, Cond.selects RX4 yX4_entryAfter yX4_entryAfter, Cond.code yX4_entryAfter cX4_entryAfter 8 (some .int), Cond.methodLink RX4 166 yX4_childAfter, Cond.methodLink RX4 145 yX4_parentAt, Cond.instanceMethod yX4_parentAt, Cond.selects RX4 yX4_parentAt yX4_parentAt, Cond.code yX4_parentAt cX4_parentAt 2 (some .int)]
def wsX5_nextInScope : List Cond := .code yX5_nextInScope cX5_nextInScope 5 (some .int) :: ((wsX5_nextInScope_r1 ++ wsX5_nextInScope_r2) ++ wsX50 ++ wsX40 ++ wsX30)
def wsX5_search_r1 : List Cond := [Cond.classLink RX5 169 "java/lang/IndexOutOfBoundsException", Cond.initialized "java/lang/IndexOutOfBoundsException", Cond.fieldLink RX5 45 "EntryMasters" "filters" "LEntryMasters$Filters;", Cond.fieldLink RX5 38 "EntryMasters" "marks" "LEntryMasters$Marks;", Cond.methodLink RX5 71 yX5_treeOf, Cond.instanceMethod yX5_treeOf, Cond.selects RX5 yX5_treeOf yX5_treeOf, Cond.initialized RX5, Cond.code yX5_treeOf cX5_treeOf 2 (some (.object "EntryMasters$Tree")), Cond.fieldLink RX5 28 "EntryMasters" "firstTree" "LEntryMasters$Tree;", Cond.fieldLink RX5 32 "EntryMasters" "secondTree" "LEntryMasters$Tree;", Cond.methodLink RX5 49 yX5_checkIndex, Cond.static yX5_checkIndex, Cond.code yX5_checkIndex cX5_checkIndex 2 none, Cond.methodLink RX5 75 yX5_checkEntry, Cond.static yX5_checkEntry, Cond.code yX5_checkEntry cX5_checkEntry 2 none, Cond.methodLink RX5 135 yX4_has, Cond.instanceMethod yX4_has, Cond.selects RX4 yX4_has yX4_has, Cond.initialized RX4, Cond.code yX4_has cX4_has 2 (some .boolean), Cond.fieldLink RX4 15 "EntryMasters$Tree" "there" "[Z", Cond.methodLink RX5 53 yX5_checkArgument]
def wsX5_search_r2 : List Cond := [Cond.static yX5_checkArgument, Cond.code yX5_checkArgument cX5_checkArgument 3 none, Cond.classLink RX5 199 "java/lang/IllegalArgumentException", Cond.initialized "java/lang/IllegalArgumentException", Cond.methodLink RX5 174 yX4_childAfter, Cond.instanceMethod yX4_childAfter, Cond.selects RX4 yX4_childAfter yX4_childAfter, Cond.code yX4_childAfter cX4_childAfter 6 (some .int), Cond.fieldLink RX4 19 "EntryMasters$Tree" "parents" "[I", Cond.methodLink RX4 158 yX3_isReferral, Cond.instanceMethod yX3_isReferral, Cond.selects RX3 yX3_isReferral yX3_isReferral, Cond.initialized RX3, Cond.code yX3_isReferral cX3_isReferral 2 (some .boolean), Cond.fieldLink RX3 15 "EntryMasters$Marks" "referrals" "[Z", Cond.methodLink RX4 163 yX4_orderUnderParent, Cond.instanceMethod yX4_orderUnderParent, Cond.selects RX4 yX4_orderUnderParent yX4_orderUnderParent, Cond.code yX4_orderUnderParent cX4_orderUnderParent 3 (some .int), Cond.methodLink RX4 155 yX4_labelAt, Cond.instanceMethod yX4_labelAt, Cond.selects RX4 yX4_labelAt yX4_labelAt, Cond.code yX4_labelAt cX4_labelAt 2 (some .int), Cond.fieldLink RX4 22 "EntryMasters$Tree" "labels" "[I"]
def wsX5_search_r3 : List Cond := [Cond.static yX5_at, Cond.code yX5_at cX5_at 2 (some .int), Cond.methodLink RX5 178 yX5_isFound, Cond.instanceMethod yX5_isFound, Cond.selects RX5 yX5_isFound yX5_isFound, Cond.code yX5_isFound cX5_isFound 5 (some .boolean), Cond.methodLink RX5 165 yX1_truthFor, Cond.instanceMethod yX1_truthFor, Cond.selects RX1 yX1_truthFor yX1_truthFor, Cond.initialized RX1, Cond.code yX1_truthFor cX1_truthFor 8 (some .int), Cond.fieldLink RX1 9 "EntryMasters$Filters" "kinds" "[I", Cond.fieldLink RX1 15 "EntryMasters$Filters" "firsts" "[I", Cond.fieldLink RX1 18 "EntryMasters$Filters" "seconds" "[I", Cond.fieldLink RX1 21 "EntryMasters$Filters" "truths" "[I", Cond.methodLink RX1 32 yX1_truthOfTest, Cond.static yX1_truthOfTest, Cond.code yX1_truthOfTest cX1_truthOfTest 6 (some .int), Cond.methodLink RX1 44 yX4_mayHold, Cond.instanceMethod yX4_mayHold, Cond.selects RX4 yX4_mayHold yX4_mayHold, Cond.code yX4_mayHold cX4_mayHold 3 (some .boolean), Cond.fieldLink RX4 39 "EntryMasters$Tree" "classes" "LEntryMasters$Classes;", Cond.fieldLink RX4 25 "EntryMasters$Tree" "classesOfEntries" "[I"]
def wsX5_search_r4 : List Cond := [Cond.methodLink RX4 134 yX0_allows, Cond.instanceMethod yX0_allows, Cond.selects RX0 yX0_allows yX0_allows, Cond.initialized RX0, Cond.code yX0_allows cX0_allows 3 (some .boolean), Cond.fieldLink RX0 15 "EntryMasters$Classes" "allowed" "[I", Cond.methodLink RX0 28 yX0_hasBit, Cond.static yX0_hasBit, Cond.code yX0_hasBit cX0_hasBit 2 (some .boolean), Cond.methodLink RX1 50 yX4_valueAt, Cond.instanceMethod yX4_valueAt, Cond.selects RX4 yX4_valueAt yX4_valueAt, Cond.code yX4_valueAt cX4_valueAt 3 (some .int), Cond.fieldLink RX4 28 "EntryMasters$Tree" "values" "[I", Cond.methodLink RX1 40 yX1_truthOfJoin, Cond.static yX1_truthOfJoin, Cond.code yX1_truthOfJoin cX1_truthOfJoin 3 (some .int), Cond.methodLink RX1 54 yX1_both, Cond.static yX1_both, Cond.code yX1_both cX1_both 2 (some .int), Cond.methodLink RX1 57 yX1_opposite, Cond.static yX1_opposite, Cond.code yX1_opposite cX1_opposite 1 (some .int), Cond.methodLink RX5 186 yX3_rightThatCounts]
def wsX5_search_r5 : List Cond := [Cond.instanceMethod yX3_rightThatCounts, Cond.selects RX3 yX3_rightThatCounts yX3_rightThatCounts, Cond.code yX3_rightThatCounts cX3_rightThatCounts 7 (some .int), Cond.fieldLink RX3 9 "EntryMasters$Marks" "rights" "[I", Cond.methodLink RX3 33 yX4_parentAt, Cond.instanceMethod yX4_parentAt, Cond.selects RX4 yX4_parentAt yX4_parentAt, Cond.code yX4_parentAt cX4_parentAt 2 (some .int), Cond.methodLink RX5 182 yX5_nextInScope, Cond.instanceMethod yX5_nextInScope, Cond.selects RX5 yX5_nextInScope yX5_nextInScope, Cond.code yX5_nextInScope cX5_nextInScope 5 (some .int), Cond.methodLink RX5 189 yX4_orderUnderParent, Cond.methodLink RX5 192 yX4_entryAfter, Cond.instanceMethod yX4_entryAfter, Cond.selects RX4 yX4_entryAfter yX4_entryAfter, Cond.code yX4_entryAfter cX4_entryAfter 8 (some .int), Cond.methodLink RX4 166 yX4_childAfter, Cond.methodLink RX4 145 yX4_parentAt]
def wsX5_search : List Cond := .code yX5_search cX5_search 11 (some .int) :: ((wsX5_search_r1 ++ (wsX5_search_r2 ++ (wsX5_search_r3 ++ (wsX5_search_r4 ++ wsX5_search_r5)))) ++ wsX50 ++ wsX10 ++ wsX40 ++ wsX30 ++ wsX00 ++ (vx_atS RX5 173 "java/lang/IndexOutOfBoundsException" ["java/lang/RuntimeException", "java/lang/Exception"]).filter goodWord ++ (vx_atS RX5 203 "java/lang/IllegalArgumentException" ["java/lang/RuntimeException", "java/lang/Exception"]).filter goodWord)
def wsX6_init_r1 : List Cond := [Cond.methodLink RX6 1 objectInit, Cond.instanceMethod objectInit, Cond.code objectInit ⟨#[0xb1]⟩ 1 none, Cond.arrayClass .int, Cond.fieldLink RX6 7 "EntryMastersModel" "needs" "[I", Cond.fieldLink RX6 13 "EntryMastersModel" "allows" "[I", Cond.fieldLink RX6 16 "EntryMastersModel" "kind" "[I", Cond.fieldLink RX6 19 "EntryMastersModel" "entry" "[I", Cond.fieldLink RX6 22 "EntryMastersModel" "under" "[I", Cond.fieldLink RX6 25 "EntryMastersModel" "named" "[I", Cond.fieldLink RX6 28 "EntryMastersModel" "which" "[I", Cond.fieldLink RX6 31 "EntryMastersModel" "worth" "[I", Cond.fieldLink RX6 34 "EntryMastersModel" "time" "[I", Cond.fieldLink RX6 37 "EntryMastersModel" "maker" "[I", Cond.fieldLink RX6 40 "EntryMastersModel" "known" "[I", Cond.fieldLink RX6 43 "EntryMastersModel" "right" "[I", Cond.arrayClass .boolean, Cond.fieldLink RX6 46 "EntryMastersModel" "referral" "[Z", Cond.fieldLink RX6 50 "EntryMastersModel" "sort" "[I", Cond.fieldLink RX6 53 "EntryMastersModel" "first" "[I", Cond.fieldLink RX6 56 "EntryMastersModel" "second" "[I", Cond.fieldLink RX6 59 "EntryMastersModel" "truth" "[I", Cond.fieldLink RX6 62 "EntryMastersModel" "there" "[Z", Cond.fieldLink RX6 65 "EntryMastersModel" "parent" "[I"]
def wsX6_init_r2 : List Cond := [Cond.fieldLink RX6 68 "EntryMastersModel" "label" "[I", Cond.fieldLink RX6 71 "EntryMastersModel" "its" "[I", Cond.fieldLink RX6 74 "EntryMastersModel" "value" "[I", Cond.fieldLink RX6 77 "EntryMastersModel" "other" "[I"]
def wsX6_init : List Cond := .code yX6_init cX6_init 2 none :: ((wsX6_init_r1 ++ wsX6_init_r2) ++ wsX60)
def wsX6_thrown : List Cond := .code yX6_thrown cX6_thrown 1 (some .int) :: ([.fieldLink RX6 80 "EntryMastersModel" "thrown" "I"] ++ wsX60)
def wsX6_isIn : List Cond := .code yX6_isIn cX6_isIn 3 (some .boolean) :: ([])
def wsX6_isMaster : List Cond := .code yX6_isMaster cX6_isMaster 1 (some .boolean) :: ([.methodLink RX6 84 yX6_isIn, .static yX6_isIn, .initialized RX6, .code yX6_isIn cX6_isIn 3 (some .boolean)])
def wsX6_setClass : List Cond := .code yX6_setClass cX6_setClass 5 none :: ([.fieldLink RX6 88 "EntryMastersModel" "changes" "I", .fieldLink RX6 80 "EntryMastersModel" "thrown" "I", .fieldLink RX6 7 "EntryMastersModel" "needs" "[I", .fieldLink RX6 13 "EntryMastersModel" "allows" "[I", .methodLink RX6 84 yX6_isIn, .static yX6_isIn, .initialized RX6, .code yX6_isIn cX6_isIn 3 (some .boolean)] ++ wsX60)
def wsX6_allowed : List Cond := .code yX6_allowed cX6_allowed 3 (some .boolean) :: ([.fieldLink RX6 13 "EntryMastersModel" "allows" "[I", .fieldLink RX6 71 "EntryMastersModel" "its" "[I"] ++ wsX60)
def wsX6_alike : List Cond := .code yX6_alike cX6_alike 2 (some .boolean) :: ([])
def wsX6_finds : List Cond := .code yX6_finds cX6_finds 6 (some .int) :: ([.fieldLink RX6 62 "EntryMastersModel" "there" "[Z", .fieldLink RX6 65 "EntryMastersModel" "parent" "[I", .fieldLink RX6 68 "EntryMastersModel" "label" "[I", .methodLink RX6 91 yX6_alike, .static yX6_alike, .initialized RX6, .code yX6_alike cX6_alike 2 (some .boolean)] ++ wsX60)
def wsX6_isWithin : List Cond := .code yX6_isWithin cX6_isWithin 4 (some .boolean) :: ([.fieldLink RX6 65 "EntryMastersModel" "parent" "[I"] ++ wsX60)
def wsX6_hangs : List Cond := .code yX6_hangs cX6_hangs 3 none :: ([.fieldLink RX6 65 "EntryMastersModel" "parent" "[I", .fieldLink RX6 62 "EntryMastersModel" "there" "[Z", .fieldLink RX6 68 "EntryMastersModel" "label" "[I", .methodLink RX6 95 yX6_finds, .instanceMethod yX6_finds, .selects RX6 yX6_finds yX6_finds, .initialized RX6, .code yX6_finds cX6_finds 6 (some .int), .methodLink RX6 91 yX6_alike, .static yX6_alike, .code yX6_alike cX6_alike 2 (some .boolean)] ++ wsX60)
def wsX6_does_r1 : List Cond := [Cond.fieldLink RX6 19 "EntryMastersModel" "entry" "[I", Cond.fieldLink RX6 16 "EntryMastersModel" "kind" "[I", Cond.fieldLink RX6 62 "EntryMastersModel" "there" "[Z", Cond.fieldLink RX6 71 "EntryMastersModel" "its" "[I", Cond.fieldLink RX6 28 "EntryMastersModel" "which" "[I", Cond.fieldLink RX6 68 "EntryMastersModel" "label" "[I", Cond.fieldLink RX6 25 "EntryMastersModel" "named" "[I", Cond.fieldLink RX6 22 "EntryMastersModel" "under" "[I", Cond.fieldLink RX6 74 "EntryMastersModel" "value" "[I", Cond.fieldLink RX6 31 "EntryMastersModel" "worth" "[I", Cond.fieldLink RX6 65 "EntryMastersModel" "parent" "[I", Cond.methodLink RX6 99 yX6_hangs, Cond.instanceMethod yX6_hangs, Cond.selects RX6 yX6_hangs yX6_hangs, Cond.initialized RX6, Cond.code yX6_hangs cX6_hangs 3 none, Cond.methodLink RX6 95 yX6_finds, Cond.instanceMethod yX6_finds, Cond.selects RX6 yX6_finds yX6_finds, Cond.code yX6_finds cX6_finds 6 (some .int), Cond.methodLink RX6 91 yX6_alike, Cond.static yX6_alike, Cond.code yX6_alike cX6_alike 2 (some .boolean), Cond.methodLink RX6 103 yX6_allowed]
def wsX6_does_r2 : List Cond := [Cond.instanceMethod yX6_allowed, Cond.selects RX6 yX6_allowed yX6_allowed, Cond.code yX6_allowed cX6_allowed 3 (some .boolean), Cond.fieldLink RX6 13 "EntryMastersModel" "allows" "[I", Cond.methodLink RX6 106 yX6_isWithin, Cond.instanceMethod yX6_isWithin, Cond.selects RX6 yX6_isWithin yX6_isWithin, Cond.code yX6_isWithin cX6_isWithin 4 (some .boolean)]
def wsX6_does : List Cond := .code yX6_does cX6_does 4 none :: ((wsX6_does_r1 ++ wsX6_does_r2) ++ wsX60)
def wsX6_knows : List Cond := .code yX6_knows cX6_knows 3 (some .boolean) :: ([.fieldLink RX6 40 "EntryMastersModel" "known" "[I"] ++ wsX60)
def wsX6_next : List Cond := .code yX6_next cX6_next 6 (some .int) :: ([.fieldLink RX6 88 "EntryMastersModel" "changes" "I", .fieldLink RX6 34 "EntryMastersModel" "time" "[I", .fieldLink RX6 37 "EntryMastersModel" "maker" "[I", .methodLink RX6 109 yX6_knows, .instanceMethod yX6_knows, .selects RX6 yX6_knows yX6_knows, .initialized RX6, .code yX6_knows cX6_knows 3 (some .boolean), .fieldLink RX6 40 "EntryMastersModel" "known" "[I"] ++ wsX60)
def wsX6_grows_r1 : List Cond := [Cond.fieldLink RX6 62 "EntryMastersModel" "there" "[Z", Cond.fieldLink RX6 65 "EntryMastersModel" "parent" "[I", Cond.fieldLink RX6 68 "EntryMastersModel" "label" "[I", Cond.fieldLink RX6 71 "EntryMastersModel" "its" "[I", Cond.fieldLink RX6 74 "EntryMastersModel" "value" "[I", Cond.fieldLink RX6 34 "EntryMastersModel" "time" "[I", Cond.fieldLink RX6 37 "EntryMastersModel" "maker" "[I", Cond.methodLink RX6 112 yX6_next, Cond.instanceMethod yX6_next, Cond.selects RX6 yX6_next yX6_next, Cond.initialized RX6, Cond.code yX6_next cX6_next 6 (some .int), Cond.fieldLink RX6 88 "EntryMastersModel" "changes" "I", Cond.methodLink RX6 109 yX6_knows, Cond.instanceMethod yX6_knows, Cond.selects RX6 yX6_knows yX6_knows, Cond.code yX6_knows cX6_knows 3 (some .boolean), Cond.fieldLink RX6 40 "EntryMastersModel" "known" "[I", Cond.methodLink RX6 116 yX6_does, Cond.instanceMethod yX6_does, Cond.selects RX6 yX6_does yX6_does, Cond.code yX6_does cX6_does 4 none, Cond.fieldLink RX6 19 "EntryMastersModel" "entry" "[I", Cond.fieldLink RX6 16 "EntryMastersModel" "kind" "[I"]
def wsX6_grows_r2 : List Cond := [Cond.fieldLink RX6 28 "EntryMastersModel" "which" "[I", Cond.fieldLink RX6 25 "EntryMastersModel" "named" "[I", Cond.fieldLink RX6 22 "EntryMastersModel" "under" "[I", Cond.fieldLink RX6 31 "EntryMastersModel" "worth" "[I", Cond.methodLink RX6 99 yX6_hangs, Cond.instanceMethod yX6_hangs, Cond.selects RX6 yX6_hangs yX6_hangs, Cond.code yX6_hangs cX6_hangs 3 none, Cond.methodLink RX6 95 yX6_finds, Cond.instanceMethod yX6_finds, Cond.selects RX6 yX6_finds yX6_finds, Cond.code yX6_finds cX6_finds 6 (some .int), Cond.methodLink RX6 91 yX6_alike, Cond.static yX6_alike, Cond.code yX6_alike cX6_alike 2 (some .boolean), Cond.methodLink RX6 103 yX6_allowed, Cond.instanceMethod yX6_allowed, Cond.selects RX6 yX6_allowed yX6_allowed, Cond.code yX6_allowed cX6_allowed 3 (some .boolean), Cond.fieldLink RX6 13 "EntryMastersModel" "allows" "[I", Cond.methodLink RX6 106 yX6_isWithin, Cond.instanceMethod yX6_isWithin, Cond.selects RX6 yX6_isWithin yX6_isWithin, Cond.code yX6_isWithin cX6_isWithin 4 (some .boolean)]
def wsX6_grows : List Cond := .code yX6_grows cX6_grows 4 none :: ((wsX6_grows_r1 ++ wsX6_grows_r2) ++ wsX60)
def wsX6_isHere_r1 : List Cond := [Cond.fieldLink RX6 62 "EntryMastersModel" "there" "[Z", Cond.methodLink RX6 120 yX6_isMaster, Cond.static yX6_isMaster, Cond.initialized RX6, Cond.code yX6_isMaster cX6_isMaster 1 (some .boolean), Cond.methodLink RX6 84 yX6_isIn, Cond.static yX6_isIn, Cond.code yX6_isIn cX6_isIn 3 (some .boolean), Cond.methodLink RX6 124 yX6_grows, Cond.instanceMethod yX6_grows, Cond.selects RX6 yX6_grows yX6_grows, Cond.code yX6_grows cX6_grows 4 none, Cond.fieldLink RX6 65 "EntryMastersModel" "parent" "[I", Cond.fieldLink RX6 68 "EntryMastersModel" "label" "[I", Cond.fieldLink RX6 71 "EntryMastersModel" "its" "[I", Cond.fieldLink RX6 74 "EntryMastersModel" "value" "[I", Cond.fieldLink RX6 34 "EntryMastersModel" "time" "[I", Cond.fieldLink RX6 37 "EntryMastersModel" "maker" "[I", Cond.methodLink RX6 112 yX6_next, Cond.instanceMethod yX6_next, Cond.selects RX6 yX6_next yX6_next, Cond.code yX6_next cX6_next 6 (some .int), Cond.fieldLink RX6 88 "EntryMastersModel" "changes" "I", Cond.methodLink RX6 109 yX6_knows]
def wsX6_isHere_r2 : List Cond := [Cond.instanceMethod yX6_knows, Cond.selects RX6 yX6_knows yX6_knows, Cond.code yX6_knows cX6_knows 3 (some .boolean), Cond.fieldLink RX6 40 "EntryMastersModel" "known" "[I", Cond.methodLink RX6 116 yX6_does, Cond.instanceMethod yX6_does, Cond.selects RX6 yX6_does yX6_does, Cond.code yX6_does cX6_does 4 none, Cond.fieldLink RX6 19 "EntryMastersModel" "entry" "[I", Cond.fieldLink RX6 16 "EntryMastersModel" "kind" "[I", Cond.fieldLink RX6 28 "EntryMastersModel" "which" "[I", Cond.fieldLink RX6 25 "EntryMastersModel" "named" "[I", Cond.fieldLink RX6 22 "EntryMastersModel" "under" "[I", Cond.fieldLink RX6 31 "EntryMastersModel" "worth" "[I", Cond.methodLink RX6 99 yX6_hangs, Cond.instanceMethod yX6_hangs, Cond.selects RX6 yX6_hangs yX6_hangs, Cond.code yX6_hangs cX6_hangs 3 none, Cond.methodLink RX6 95 yX6_finds, Cond.instanceMethod yX6_finds, Cond.selects RX6 yX6_finds yX6_finds, Cond.code yX6_finds cX6_finds 6 (some .int), Cond.methodLink RX6 91 yX6_alike, Cond.static yX6_alike]
def wsX6_isHere_r3 : List Cond := [Cond.code yX6_alike cX6_alike 2 (some .boolean), Cond.methodLink RX6 103 yX6_allowed, Cond.instanceMethod yX6_allowed, Cond.selects RX6 yX6_allowed yX6_allowed, Cond.code yX6_allowed cX6_allowed 3 (some .boolean), Cond.fieldLink RX6 13 "EntryMastersModel" "allows" "[I", Cond.methodLink RX6 106 yX6_isWithin, Cond.instanceMethod yX6_isWithin, Cond.selects RX6 yX6_isWithin yX6_isWithin, Cond.code yX6_isWithin cX6_isWithin 4 (some .boolean)]
def wsX6_isHere : List Cond := .code yX6_isHere cX6_isHere 3 (some .boolean) :: ((wsX6_isHere_r1 ++ (wsX6_isHere_r2 ++ wsX6_isHere_r3)) ++ wsX60)
def wsX6_made : List Cond := .code yX6_made cX6_made 6 (some .int) :: ([.fieldLink RX6 88 "EntryMastersModel" "changes" "I", .fieldLink RX6 34 "EntryMastersModel" "time" "[I", .fieldLink RX6 16 "EntryMastersModel" "kind" "[I", .fieldLink RX6 19 "EntryMastersModel" "entry" "[I", .fieldLink RX6 37 "EntryMastersModel" "maker" "[I", .fieldLink RX6 40 "EntryMastersModel" "known" "[I", .methodLink RX6 109 yX6_knows, .instanceMethod yX6_knows, .selects RX6 yX6_knows yX6_knows, .initialized RX6, .code yX6_knows cX6_knows 3 (some .boolean)] ++ wsX60)
def wsX6_add_r1 : List Cond := [Cond.fieldLink RX6 88 "EntryMastersModel" "changes" "I", Cond.fieldLink RX6 80 "EntryMastersModel" "thrown" "I", Cond.fieldLink RX6 22 "EntryMastersModel" "under" "[I", Cond.fieldLink RX6 25 "EntryMastersModel" "named" "[I", Cond.fieldLink RX6 28 "EntryMastersModel" "which" "[I", Cond.methodLink RX6 127 yX6_isHere, Cond.instanceMethod yX6_isHere, Cond.selects RX6 yX6_isHere yX6_isHere, Cond.initialized RX6, Cond.code yX6_isHere cX6_isHere 3 (some .boolean), Cond.fieldLink RX6 62 "EntryMastersModel" "there" "[Z", Cond.methodLink RX6 120 yX6_isMaster, Cond.static yX6_isMaster, Cond.code yX6_isMaster cX6_isMaster 1 (some .boolean), Cond.methodLink RX6 84 yX6_isIn, Cond.static yX6_isIn, Cond.code yX6_isIn cX6_isIn 3 (some .boolean), Cond.methodLink RX6 124 yX6_grows, Cond.instanceMethod yX6_grows, Cond.selects RX6 yX6_grows yX6_grows, Cond.code yX6_grows cX6_grows 4 none, Cond.fieldLink RX6 65 "EntryMastersModel" "parent" "[I", Cond.fieldLink RX6 68 "EntryMastersModel" "label" "[I", Cond.fieldLink RX6 71 "EntryMastersModel" "its" "[I"]
def wsX6_add_r2 : List Cond := [Cond.fieldLink RX6 74 "EntryMastersModel" "value" "[I", Cond.fieldLink RX6 34 "EntryMastersModel" "time" "[I", Cond.fieldLink RX6 37 "EntryMastersModel" "maker" "[I", Cond.methodLink RX6 112 yX6_next, Cond.instanceMethod yX6_next, Cond.selects RX6 yX6_next yX6_next, Cond.code yX6_next cX6_next 6 (some .int), Cond.methodLink RX6 109 yX6_knows, Cond.instanceMethod yX6_knows, Cond.selects RX6 yX6_knows yX6_knows, Cond.code yX6_knows cX6_knows 3 (some .boolean), Cond.fieldLink RX6 40 "EntryMastersModel" "known" "[I", Cond.methodLink RX6 116 yX6_does, Cond.instanceMethod yX6_does, Cond.selects RX6 yX6_does yX6_does, Cond.code yX6_does cX6_does 4 none, Cond.fieldLink RX6 19 "EntryMastersModel" "entry" "[I", Cond.fieldLink RX6 16 "EntryMastersModel" "kind" "[I", Cond.fieldLink RX6 31 "EntryMastersModel" "worth" "[I", Cond.methodLink RX6 99 yX6_hangs, Cond.instanceMethod yX6_hangs, Cond.selects RX6 yX6_hangs yX6_hangs, Cond.code yX6_hangs cX6_hangs 3 none, Cond.methodLink RX6 95 yX6_finds]
def wsX6_add_r3 : List Cond := [Cond.instanceMethod yX6_finds, Cond.selects RX6 yX6_finds yX6_finds, Cond.code yX6_finds cX6_finds 6 (some .int), Cond.methodLink RX6 91 yX6_alike, Cond.static yX6_alike, Cond.code yX6_alike cX6_alike 2 (some .boolean), Cond.methodLink RX6 103 yX6_allowed, Cond.instanceMethod yX6_allowed, Cond.selects RX6 yX6_allowed yX6_allowed, Cond.code yX6_allowed cX6_allowed 3 (some .boolean), Cond.fieldLink RX6 13 "EntryMastersModel" "allows" "[I", Cond.methodLink RX6 106 yX6_isWithin, Cond.instanceMethod yX6_isWithin, Cond.selects RX6 yX6_isWithin yX6_isWithin, Cond.code yX6_isWithin cX6_isWithin 4 (some .boolean), Cond.methodLink RX6 130 yX6_made, Cond.instanceMethod yX6_made, Cond.selects RX6 yX6_made yX6_made, Cond.code yX6_made cX6_made 6 (some .int)]
def wsX6_add : List Cond := .code yX6_add cX6_add 6 (some .int) :: ((wsX6_add_r1 ++ (wsX6_add_r2 ++ wsX6_add_r3)) ++ wsX60)
def wsX6_set_r1 : List Cond := [Cond.fieldLink RX6 88 "EntryMastersModel" "changes" "I", Cond.fieldLink RX6 80 "EntryMastersModel" "thrown" "I", Cond.fieldLink RX6 28 "EntryMastersModel" "which" "[I", Cond.fieldLink RX6 31 "EntryMastersModel" "worth" "[I", Cond.fieldLink RX6 74 "EntryMastersModel" "value" "[I", Cond.methodLink RX6 127 yX6_isHere, Cond.instanceMethod yX6_isHere, Cond.selects RX6 yX6_isHere yX6_isHere, Cond.initialized RX6, Cond.code yX6_isHere cX6_isHere 3 (some .boolean), Cond.fieldLink RX6 62 "EntryMastersModel" "there" "[Z", Cond.methodLink RX6 120 yX6_isMaster, Cond.static yX6_isMaster, Cond.code yX6_isMaster cX6_isMaster 1 (some .boolean), Cond.methodLink RX6 84 yX6_isIn, Cond.static yX6_isIn, Cond.code yX6_isIn cX6_isIn 3 (some .boolean), Cond.methodLink RX6 124 yX6_grows, Cond.instanceMethod yX6_grows, Cond.selects RX6 yX6_grows yX6_grows, Cond.code yX6_grows cX6_grows 4 none, Cond.fieldLink RX6 65 "EntryMastersModel" "parent" "[I", Cond.fieldLink RX6 68 "EntryMastersModel" "label" "[I", Cond.fieldLink RX6 71 "EntryMastersModel" "its" "[I"]
def wsX6_set_r2 : List Cond := [Cond.fieldLink RX6 34 "EntryMastersModel" "time" "[I", Cond.fieldLink RX6 37 "EntryMastersModel" "maker" "[I", Cond.methodLink RX6 112 yX6_next, Cond.instanceMethod yX6_next, Cond.selects RX6 yX6_next yX6_next, Cond.code yX6_next cX6_next 6 (some .int), Cond.methodLink RX6 109 yX6_knows, Cond.instanceMethod yX6_knows, Cond.selects RX6 yX6_knows yX6_knows, Cond.code yX6_knows cX6_knows 3 (some .boolean), Cond.fieldLink RX6 40 "EntryMastersModel" "known" "[I", Cond.methodLink RX6 116 yX6_does, Cond.instanceMethod yX6_does, Cond.selects RX6 yX6_does yX6_does, Cond.code yX6_does cX6_does 4 none, Cond.fieldLink RX6 19 "EntryMastersModel" "entry" "[I", Cond.fieldLink RX6 16 "EntryMastersModel" "kind" "[I", Cond.fieldLink RX6 25 "EntryMastersModel" "named" "[I", Cond.fieldLink RX6 22 "EntryMastersModel" "under" "[I", Cond.methodLink RX6 99 yX6_hangs, Cond.instanceMethod yX6_hangs, Cond.selects RX6 yX6_hangs yX6_hangs, Cond.code yX6_hangs cX6_hangs 3 none, Cond.methodLink RX6 95 yX6_finds]
def wsX6_set_r3 : List Cond := [Cond.instanceMethod yX6_finds, Cond.selects RX6 yX6_finds yX6_finds, Cond.code yX6_finds cX6_finds 6 (some .int), Cond.methodLink RX6 91 yX6_alike, Cond.static yX6_alike, Cond.code yX6_alike cX6_alike 2 (some .boolean), Cond.methodLink RX6 103 yX6_allowed, Cond.instanceMethod yX6_allowed, Cond.selects RX6 yX6_allowed yX6_allowed, Cond.code yX6_allowed cX6_allowed 3 (some .boolean), Cond.fieldLink RX6 13 "EntryMastersModel" "allows" "[I", Cond.methodLink RX6 106 yX6_isWithin, Cond.instanceMethod yX6_isWithin, Cond.selects RX6 yX6_isWithin yX6_isWithin, Cond.code yX6_isWithin cX6_isWithin 4 (some .boolean), Cond.methodLink RX6 130 yX6_made, Cond.instanceMethod yX6_made, Cond.selects RX6 yX6_made yX6_made, Cond.code yX6_made cX6_made 6 (some .int)]
def wsX6_set : List Cond := .code yX6_set cX6_set 6 (some .int) :: ((wsX6_set_r1 ++ (wsX6_set_r2 ++ wsX6_set_r3)) ++ wsX60)
def wsX6_move_r1 : List Cond := [Cond.fieldLink RX6 88 "EntryMastersModel" "changes" "I", Cond.fieldLink RX6 80 "EntryMastersModel" "thrown" "I", Cond.fieldLink RX6 22 "EntryMastersModel" "under" "[I", Cond.fieldLink RX6 25 "EntryMastersModel" "named" "[I", Cond.fieldLink RX6 65 "EntryMastersModel" "parent" "[I", Cond.methodLink RX6 127 yX6_isHere, Cond.instanceMethod yX6_isHere, Cond.selects RX6 yX6_isHere yX6_isHere, Cond.initialized RX6, Cond.code yX6_isHere cX6_isHere 3 (some .boolean), Cond.fieldLink RX6 62 "EntryMastersModel" "there" "[Z", Cond.methodLink RX6 120 yX6_isMaster, Cond.static yX6_isMaster, Cond.code yX6_isMaster cX6_isMaster 1 (some .boolean), Cond.methodLink RX6 84 yX6_isIn, Cond.static yX6_isIn, Cond.code yX6_isIn cX6_isIn 3 (some .boolean), Cond.methodLink RX6 124 yX6_grows, Cond.instanceMethod yX6_grows, Cond.selects RX6 yX6_grows yX6_grows, Cond.code yX6_grows cX6_grows 4 none, Cond.fieldLink RX6 68 "EntryMastersModel" "label" "[I", Cond.fieldLink RX6 71 "EntryMastersModel" "its" "[I", Cond.fieldLink RX6 74 "EntryMastersModel" "value" "[I"]
def wsX6_move_r2 : List Cond := [Cond.fieldLink RX6 34 "EntryMastersModel" "time" "[I", Cond.fieldLink RX6 37 "EntryMastersModel" "maker" "[I", Cond.methodLink RX6 112 yX6_next, Cond.instanceMethod yX6_next, Cond.selects RX6 yX6_next yX6_next, Cond.code yX6_next cX6_next 6 (some .int), Cond.methodLink RX6 109 yX6_knows, Cond.instanceMethod yX6_knows, Cond.selects RX6 yX6_knows yX6_knows, Cond.code yX6_knows cX6_knows 3 (some .boolean), Cond.fieldLink RX6 40 "EntryMastersModel" "known" "[I", Cond.methodLink RX6 116 yX6_does, Cond.instanceMethod yX6_does, Cond.selects RX6 yX6_does yX6_does, Cond.code yX6_does cX6_does 4 none, Cond.fieldLink RX6 19 "EntryMastersModel" "entry" "[I", Cond.fieldLink RX6 16 "EntryMastersModel" "kind" "[I", Cond.fieldLink RX6 28 "EntryMastersModel" "which" "[I", Cond.fieldLink RX6 31 "EntryMastersModel" "worth" "[I", Cond.methodLink RX6 99 yX6_hangs, Cond.instanceMethod yX6_hangs, Cond.selects RX6 yX6_hangs yX6_hangs, Cond.code yX6_hangs cX6_hangs 3 none, Cond.methodLink RX6 95 yX6_finds]
def wsX6_move_r3 : List Cond := [Cond.instanceMethod yX6_finds, Cond.selects RX6 yX6_finds yX6_finds, Cond.code yX6_finds cX6_finds 6 (some .int), Cond.methodLink RX6 91 yX6_alike, Cond.static yX6_alike, Cond.code yX6_alike cX6_alike 2 (some .boolean), Cond.methodLink RX6 103 yX6_allowed, Cond.instanceMethod yX6_allowed, Cond.selects RX6 yX6_allowed yX6_allowed, Cond.code yX6_allowed cX6_allowed 3 (some .boolean), Cond.fieldLink RX6 13 "EntryMastersModel" "allows" "[I", Cond.methodLink RX6 106 yX6_isWithin, Cond.instanceMethod yX6_isWithin, Cond.selects RX6 yX6_isWithin yX6_isWithin, Cond.code yX6_isWithin cX6_isWithin 4 (some .boolean), Cond.methodLink RX6 130 yX6_made, Cond.instanceMethod yX6_made, Cond.selects RX6 yX6_made yX6_made, Cond.code yX6_made cX6_made 6 (some .int)]
def wsX6_move : List Cond := .code yX6_move cX6_move 7 (some .int) :: ((wsX6_move_r1 ++ (wsX6_move_r2 ++ wsX6_move_r3)) ++ wsX60)
def wsX6_count : List Cond := .code yX6_count cX6_count 4 (some .int) :: ([.fieldLink RX6 62 "EntryMastersModel" "there" "[Z", .fieldLink RX6 65 "EntryMastersModel" "parent" "[I"] ++ wsX60)
def wsX6_delete_r1 : List Cond := [Cond.fieldLink RX6 88 "EntryMastersModel" "changes" "I", Cond.fieldLink RX6 80 "EntryMastersModel" "thrown" "I", Cond.methodLink RX6 127 yX6_isHere, Cond.instanceMethod yX6_isHere, Cond.selects RX6 yX6_isHere yX6_isHere, Cond.initialized RX6, Cond.code yX6_isHere cX6_isHere 3 (some .boolean), Cond.fieldLink RX6 62 "EntryMastersModel" "there" "[Z", Cond.methodLink RX6 120 yX6_isMaster, Cond.static yX6_isMaster, Cond.code yX6_isMaster cX6_isMaster 1 (some .boolean), Cond.methodLink RX6 84 yX6_isIn, Cond.static yX6_isIn, Cond.code yX6_isIn cX6_isIn 3 (some .boolean), Cond.methodLink RX6 124 yX6_grows, Cond.instanceMethod yX6_grows, Cond.selects RX6 yX6_grows yX6_grows, Cond.code yX6_grows cX6_grows 4 none, Cond.fieldLink RX6 65 "EntryMastersModel" "parent" "[I", Cond.fieldLink RX6 68 "EntryMastersModel" "label" "[I", Cond.fieldLink RX6 71 "EntryMastersModel" "its" "[I", Cond.fieldLink RX6 74 "EntryMastersModel" "value" "[I", Cond.fieldLink RX6 34 "EntryMastersModel" "time" "[I", Cond.fieldLink RX6 37 "EntryMastersModel" "maker" "[I"]
def wsX6_delete_r2 : List Cond := [Cond.methodLink RX6 112 yX6_next, Cond.instanceMethod yX6_next, Cond.selects RX6 yX6_next yX6_next, Cond.code yX6_next cX6_next 6 (some .int), Cond.methodLink RX6 109 yX6_knows, Cond.instanceMethod yX6_knows, Cond.selects RX6 yX6_knows yX6_knows, Cond.code yX6_knows cX6_knows 3 (some .boolean), Cond.fieldLink RX6 40 "EntryMastersModel" "known" "[I", Cond.methodLink RX6 116 yX6_does, Cond.instanceMethod yX6_does, Cond.selects RX6 yX6_does yX6_does, Cond.code yX6_does cX6_does 4 none, Cond.fieldLink RX6 19 "EntryMastersModel" "entry" "[I", Cond.fieldLink RX6 16 "EntryMastersModel" "kind" "[I", Cond.fieldLink RX6 28 "EntryMastersModel" "which" "[I", Cond.fieldLink RX6 25 "EntryMastersModel" "named" "[I", Cond.fieldLink RX6 22 "EntryMastersModel" "under" "[I", Cond.fieldLink RX6 31 "EntryMastersModel" "worth" "[I", Cond.methodLink RX6 99 yX6_hangs, Cond.instanceMethod yX6_hangs, Cond.selects RX6 yX6_hangs yX6_hangs, Cond.code yX6_hangs cX6_hangs 3 none, Cond.methodLink RX6 95 yX6_finds]
def wsX6_delete_r3 : List Cond := [Cond.instanceMethod yX6_finds, Cond.selects RX6 yX6_finds yX6_finds, Cond.code yX6_finds cX6_finds 6 (some .int), Cond.methodLink RX6 91 yX6_alike, Cond.static yX6_alike, Cond.code yX6_alike cX6_alike 2 (some .boolean), Cond.methodLink RX6 103 yX6_allowed, Cond.instanceMethod yX6_allowed, Cond.selects RX6 yX6_allowed yX6_allowed, Cond.code yX6_allowed cX6_allowed 3 (some .boolean), Cond.fieldLink RX6 13 "EntryMastersModel" "allows" "[I", Cond.methodLink RX6 106 yX6_isWithin, Cond.instanceMethod yX6_isWithin, Cond.selects RX6 yX6_isWithin yX6_isWithin, Cond.code yX6_isWithin cX6_isWithin 4 (some .boolean), Cond.methodLink RX6 133 yX6_count, Cond.instanceMethod yX6_count, Cond.selects RX6 yX6_count yX6_count, Cond.code yX6_count cX6_count 4 (some .int), Cond.methodLink RX6 130 yX6_made, Cond.instanceMethod yX6_made, Cond.selects RX6 yX6_made yX6_made, Cond.code yX6_made cX6_made 6 (some .int)]
def wsX6_delete : List Cond := .code yX6_delete cX6_delete 3 (some .int) :: ((wsX6_delete_r1 ++ (wsX6_delete_r2 ++ wsX6_delete_r3)) ++ wsX60)
def wsX6_isChange : List Cond := .code yX6_isChange cX6_isChange 2 (some .boolean) :: ([.fieldLink RX6 88 "EntryMastersModel" "changes" "I", .methodLink RX6 84 yX6_isIn, .static yX6_isIn, .initialized RX6, .code yX6_isIn cX6_isIn 3 (some .boolean)] ++ wsX60)
def wsX6_carry : List Cond := .code yX6_carry cX6_carry 4 (some .boolean) :: ([.fieldLink RX6 80 "EntryMastersModel" "thrown" "I", .fieldLink RX6 40 "EntryMastersModel" "known" "[I", .methodLink RX6 137 yX6_isChange, .instanceMethod yX6_isChange, .selects RX6 yX6_isChange yX6_isChange, .initialized RX6, .code yX6_isChange cX6_isChange 2 (some .boolean), .fieldLink RX6 88 "EntryMastersModel" "changes" "I", .methodLink RX6 84 yX6_isIn, .static yX6_isIn, .code yX6_isIn cX6_isIn 3 (some .boolean), .methodLink RX6 120 yX6_isMaster, .static yX6_isMaster, .code yX6_isMaster cX6_isMaster 1 (some .boolean), .methodLink RX6 109 yX6_knows, .instanceMethod yX6_knows, .selects RX6 yX6_knows yX6_knows, .code yX6_knows cX6_knows 3 (some .boolean)] ++ wsX60)
def wsX6_changes : List Cond := .code yX6_changes cX6_changes 1 (some .int) :: ([.fieldLink RX6 80 "EntryMastersModel" "thrown" "I", .fieldLink RX6 88 "EntryMastersModel" "changes" "I"] ++ wsX60)
def wsX6_timeOf : List Cond := .code yX6_timeOf cX6_timeOf 2 (some .int) :: ([.fieldLink RX6 80 "EntryMastersModel" "thrown" "I", .fieldLink RX6 34 "EntryMastersModel" "time" "[I", .methodLink RX6 137 yX6_isChange, .instanceMethod yX6_isChange, .selects RX6 yX6_isChange yX6_isChange, .initialized RX6, .code yX6_isChange cX6_isChange 2 (some .boolean), .fieldLink RX6 88 "EntryMastersModel" "changes" "I", .methodLink RX6 84 yX6_isIn, .static yX6_isIn, .code yX6_isIn cX6_isIn 3 (some .boolean)] ++ wsX60)
def wsX6_entries_r1 : List Cond := [Cond.fieldLink RX6 80 "EntryMastersModel" "thrown" "I", Cond.methodLink RX6 127 yX6_isHere, Cond.instanceMethod yX6_isHere, Cond.selects RX6 yX6_isHere yX6_isHere, Cond.initialized RX6, Cond.code yX6_isHere cX6_isHere 3 (some .boolean), Cond.fieldLink RX6 62 "EntryMastersModel" "there" "[Z", Cond.methodLink RX6 120 yX6_isMaster, Cond.static yX6_isMaster, Cond.code yX6_isMaster cX6_isMaster 1 (some .boolean), Cond.methodLink RX6 84 yX6_isIn, Cond.static yX6_isIn, Cond.code yX6_isIn cX6_isIn 3 (some .boolean), Cond.methodLink RX6 124 yX6_grows, Cond.instanceMethod yX6_grows, Cond.selects RX6 yX6_grows yX6_grows, Cond.code yX6_grows cX6_grows 4 none, Cond.fieldLink RX6 65 "EntryMastersModel" "parent" "[I", Cond.fieldLink RX6 68 "EntryMastersModel" "label" "[I", Cond.fieldLink RX6 71 "EntryMastersModel" "its" "[I", Cond.fieldLink RX6 74 "EntryMastersModel" "value" "[I", Cond.fieldLink RX6 34 "EntryMastersModel" "time" "[I", Cond.fieldLink RX6 37 "EntryMastersModel" "maker" "[I", Cond.methodLink RX6 112 yX6_next]
def wsX6_entries_r2 : List Cond := [Cond.instanceMethod yX6_next, Cond.selects RX6 yX6_next yX6_next, Cond.code yX6_next cX6_next 6 (some .int), Cond.fieldLink RX6 88 "EntryMastersModel" "changes" "I", Cond.methodLink RX6 109 yX6_knows, Cond.instanceMethod yX6_knows, Cond.selects RX6 yX6_knows yX6_knows, Cond.code yX6_knows cX6_knows 3 (some .boolean), Cond.fieldLink RX6 40 "EntryMastersModel" "known" "[I", Cond.methodLink RX6 116 yX6_does, Cond.instanceMethod yX6_does, Cond.selects RX6 yX6_does yX6_does, Cond.code yX6_does cX6_does 4 none, Cond.fieldLink RX6 19 "EntryMastersModel" "entry" "[I", Cond.fieldLink RX6 16 "EntryMastersModel" "kind" "[I", Cond.fieldLink RX6 28 "EntryMastersModel" "which" "[I", Cond.fieldLink RX6 25 "EntryMastersModel" "named" "[I", Cond.fieldLink RX6 22 "EntryMastersModel" "under" "[I", Cond.fieldLink RX6 31 "EntryMastersModel" "worth" "[I", Cond.methodLink RX6 99 yX6_hangs, Cond.instanceMethod yX6_hangs, Cond.selects RX6 yX6_hangs yX6_hangs, Cond.code yX6_hangs cX6_hangs 3 none, Cond.methodLink RX6 95 yX6_finds]
def wsX6_entries_r3 : List Cond := [Cond.instanceMethod yX6_finds, Cond.selects RX6 yX6_finds yX6_finds, Cond.code yX6_finds cX6_finds 6 (some .int), Cond.methodLink RX6 91 yX6_alike, Cond.static yX6_alike, Cond.code yX6_alike cX6_alike 2 (some .boolean), Cond.methodLink RX6 103 yX6_allowed, Cond.instanceMethod yX6_allowed, Cond.selects RX6 yX6_allowed yX6_allowed, Cond.code yX6_allowed cX6_allowed 3 (some .boolean), Cond.fieldLink RX6 13 "EntryMastersModel" "allows" "[I", Cond.methodLink RX6 106 yX6_isWithin, Cond.instanceMethod yX6_isWithin, Cond.selects RX6 yX6_isWithin yX6_isWithin, Cond.code yX6_isWithin cX6_isWithin 4 (some .boolean), Cond.methodLink RX6 133 yX6_count, Cond.instanceMethod yX6_count, Cond.selects RX6 yX6_count yX6_count, Cond.code yX6_count cX6_count 4 (some .int)]
def wsX6_entries : List Cond := .code yX6_entries cX6_entries 2 (some .int) :: ((wsX6_entries_r1 ++ (wsX6_entries_r2 ++ wsX6_entries_r3)) ++ wsX60)
def wsX6_isThere_r1 : List Cond := [Cond.fieldLink RX6 80 "EntryMastersModel" "thrown" "I", Cond.methodLink RX6 120 yX6_isMaster, Cond.static yX6_isMaster, Cond.initialized RX6, Cond.code yX6_isMaster cX6_isMaster 1 (some .boolean), Cond.methodLink RX6 84 yX6_isIn, Cond.static yX6_isIn, Cond.code yX6_isIn cX6_isIn 3 (some .boolean), Cond.methodLink RX6 127 yX6_isHere, Cond.instanceMethod yX6_isHere, Cond.selects RX6 yX6_isHere yX6_isHere, Cond.code yX6_isHere cX6_isHere 3 (some .boolean), Cond.fieldLink RX6 62 "EntryMastersModel" "there" "[Z", Cond.methodLink RX6 124 yX6_grows, Cond.instanceMethod yX6_grows, Cond.selects RX6 yX6_grows yX6_grows, Cond.code yX6_grows cX6_grows 4 none, Cond.fieldLink RX6 65 "EntryMastersModel" "parent" "[I", Cond.fieldLink RX6 68 "EntryMastersModel" "label" "[I", Cond.fieldLink RX6 71 "EntryMastersModel" "its" "[I", Cond.fieldLink RX6 74 "EntryMastersModel" "value" "[I", Cond.fieldLink RX6 34 "EntryMastersModel" "time" "[I", Cond.fieldLink RX6 37 "EntryMastersModel" "maker" "[I", Cond.methodLink RX6 112 yX6_next]
def wsX6_isThere_r2 : List Cond := [Cond.instanceMethod yX6_next, Cond.selects RX6 yX6_next yX6_next, Cond.code yX6_next cX6_next 6 (some .int), Cond.fieldLink RX6 88 "EntryMastersModel" "changes" "I", Cond.methodLink RX6 109 yX6_knows, Cond.instanceMethod yX6_knows, Cond.selects RX6 yX6_knows yX6_knows, Cond.code yX6_knows cX6_knows 3 (some .boolean), Cond.fieldLink RX6 40 "EntryMastersModel" "known" "[I", Cond.methodLink RX6 116 yX6_does, Cond.instanceMethod yX6_does, Cond.selects RX6 yX6_does yX6_does, Cond.code yX6_does cX6_does 4 none, Cond.fieldLink RX6 19 "EntryMastersModel" "entry" "[I", Cond.fieldLink RX6 16 "EntryMastersModel" "kind" "[I", Cond.fieldLink RX6 28 "EntryMastersModel" "which" "[I", Cond.fieldLink RX6 25 "EntryMastersModel" "named" "[I", Cond.fieldLink RX6 22 "EntryMastersModel" "under" "[I", Cond.fieldLink RX6 31 "EntryMastersModel" "worth" "[I", Cond.methodLink RX6 99 yX6_hangs, Cond.instanceMethod yX6_hangs, Cond.selects RX6 yX6_hangs yX6_hangs, Cond.code yX6_hangs cX6_hangs 3 none, Cond.methodLink RX6 95 yX6_finds]
def wsX6_isThere_r3 : List Cond := [Cond.instanceMethod yX6_finds, Cond.selects RX6 yX6_finds yX6_finds, Cond.code yX6_finds cX6_finds 6 (some .int), Cond.methodLink RX6 91 yX6_alike, Cond.static yX6_alike, Cond.code yX6_alike cX6_alike 2 (some .boolean), Cond.methodLink RX6 103 yX6_allowed, Cond.instanceMethod yX6_allowed, Cond.selects RX6 yX6_allowed yX6_allowed, Cond.code yX6_allowed cX6_allowed 3 (some .boolean), Cond.fieldLink RX6 13 "EntryMastersModel" "allows" "[I", Cond.methodLink RX6 106 yX6_isWithin, Cond.instanceMethod yX6_isWithin, Cond.selects RX6 yX6_isWithin yX6_isWithin, Cond.code yX6_isWithin cX6_isWithin 4 (some .boolean)]
def wsX6_isThere : List Cond := .code yX6_isThere cX6_isThere 3 (some .boolean) :: ((wsX6_isThere_r1 ++ (wsX6_isThere_r2 ++ wsX6_isThere_r3)) ++ wsX60)
def wsX6_asks_r1 : List Cond := [Cond.fieldLink RX6 80 "EntryMastersModel" "thrown" "I", Cond.methodLink RX6 127 yX6_isHere, Cond.instanceMethod yX6_isHere, Cond.selects RX6 yX6_isHere yX6_isHere, Cond.initialized RX6, Cond.code yX6_isHere cX6_isHere 3 (some .boolean), Cond.fieldLink RX6 62 "EntryMastersModel" "there" "[Z", Cond.methodLink RX6 120 yX6_isMaster, Cond.static yX6_isMaster, Cond.code yX6_isMaster cX6_isMaster 1 (some .boolean), Cond.methodLink RX6 84 yX6_isIn, Cond.static yX6_isIn, Cond.code yX6_isIn cX6_isIn 3 (some .boolean), Cond.methodLink RX6 124 yX6_grows, Cond.instanceMethod yX6_grows, Cond.selects RX6 yX6_grows yX6_grows, Cond.code yX6_grows cX6_grows 4 none, Cond.fieldLink RX6 65 "EntryMastersModel" "parent" "[I", Cond.fieldLink RX6 68 "EntryMastersModel" "label" "[I", Cond.fieldLink RX6 71 "EntryMastersModel" "its" "[I", Cond.fieldLink RX6 74 "EntryMastersModel" "value" "[I", Cond.fieldLink RX6 34 "EntryMastersModel" "time" "[I", Cond.fieldLink RX6 37 "EntryMastersModel" "maker" "[I", Cond.methodLink RX6 112 yX6_next]
def wsX6_asks_r2 : List Cond := [Cond.instanceMethod yX6_next, Cond.selects RX6 yX6_next yX6_next, Cond.code yX6_next cX6_next 6 (some .int), Cond.fieldLink RX6 88 "EntryMastersModel" "changes" "I", Cond.methodLink RX6 109 yX6_knows, Cond.instanceMethod yX6_knows, Cond.selects RX6 yX6_knows yX6_knows, Cond.code yX6_knows cX6_knows 3 (some .boolean), Cond.fieldLink RX6 40 "EntryMastersModel" "known" "[I", Cond.methodLink RX6 116 yX6_does, Cond.instanceMethod yX6_does, Cond.selects RX6 yX6_does yX6_does, Cond.code yX6_does cX6_does 4 none, Cond.fieldLink RX6 19 "EntryMastersModel" "entry" "[I", Cond.fieldLink RX6 16 "EntryMastersModel" "kind" "[I", Cond.fieldLink RX6 28 "EntryMastersModel" "which" "[I", Cond.fieldLink RX6 25 "EntryMastersModel" "named" "[I", Cond.fieldLink RX6 22 "EntryMastersModel" "under" "[I", Cond.fieldLink RX6 31 "EntryMastersModel" "worth" "[I", Cond.methodLink RX6 99 yX6_hangs, Cond.instanceMethod yX6_hangs, Cond.selects RX6 yX6_hangs yX6_hangs, Cond.code yX6_hangs cX6_hangs 3 none, Cond.methodLink RX6 95 yX6_finds]
def wsX6_asks_r3 : List Cond := [Cond.instanceMethod yX6_finds, Cond.selects RX6 yX6_finds yX6_finds, Cond.code yX6_finds cX6_finds 6 (some .int), Cond.methodLink RX6 91 yX6_alike, Cond.static yX6_alike, Cond.code yX6_alike cX6_alike 2 (some .boolean), Cond.methodLink RX6 103 yX6_allowed, Cond.instanceMethod yX6_allowed, Cond.selects RX6 yX6_allowed yX6_allowed, Cond.code yX6_allowed cX6_allowed 3 (some .boolean), Cond.fieldLink RX6 13 "EntryMastersModel" "allows" "[I", Cond.methodLink RX6 106 yX6_isWithin, Cond.instanceMethod yX6_isWithin, Cond.selects RX6 yX6_isWithin yX6_isWithin, Cond.code yX6_isWithin cX6_isWithin 4 (some .boolean)]
def wsX6_asks : List Cond := .code yX6_asks cX6_asks 3 (some .boolean) :: ((wsX6_asks_r1 ++ (wsX6_asks_r2 ++ wsX6_asks_r3)) ++ wsX60)
def wsX6_parentOf_r1 : List Cond := [Cond.fieldLink RX6 65 "EntryMastersModel" "parent" "[I", Cond.methodLink RX6 140 yX6_asks, Cond.instanceMethod yX6_asks, Cond.selects RX6 yX6_asks yX6_asks, Cond.initialized RX6, Cond.code yX6_asks cX6_asks 3 (some .boolean), Cond.fieldLink RX6 80 "EntryMastersModel" "thrown" "I", Cond.methodLink RX6 127 yX6_isHere, Cond.instanceMethod yX6_isHere, Cond.selects RX6 yX6_isHere yX6_isHere, Cond.code yX6_isHere cX6_isHere 3 (some .boolean), Cond.fieldLink RX6 62 "EntryMastersModel" "there" "[Z", Cond.methodLink RX6 120 yX6_isMaster, Cond.static yX6_isMaster, Cond.code yX6_isMaster cX6_isMaster 1 (some .boolean), Cond.methodLink RX6 84 yX6_isIn, Cond.static yX6_isIn, Cond.code yX6_isIn cX6_isIn 3 (some .boolean), Cond.methodLink RX6 124 yX6_grows, Cond.instanceMethod yX6_grows, Cond.selects RX6 yX6_grows yX6_grows, Cond.code yX6_grows cX6_grows 4 none, Cond.fieldLink RX6 68 "EntryMastersModel" "label" "[I", Cond.fieldLink RX6 71 "EntryMastersModel" "its" "[I"]
def wsX6_parentOf_r2 : List Cond := [Cond.fieldLink RX6 74 "EntryMastersModel" "value" "[I", Cond.fieldLink RX6 34 "EntryMastersModel" "time" "[I", Cond.fieldLink RX6 37 "EntryMastersModel" "maker" "[I", Cond.methodLink RX6 112 yX6_next, Cond.instanceMethod yX6_next, Cond.selects RX6 yX6_next yX6_next, Cond.code yX6_next cX6_next 6 (some .int), Cond.fieldLink RX6 88 "EntryMastersModel" "changes" "I", Cond.methodLink RX6 109 yX6_knows, Cond.instanceMethod yX6_knows, Cond.selects RX6 yX6_knows yX6_knows, Cond.code yX6_knows cX6_knows 3 (some .boolean), Cond.fieldLink RX6 40 "EntryMastersModel" "known" "[I", Cond.methodLink RX6 116 yX6_does, Cond.instanceMethod yX6_does, Cond.selects RX6 yX6_does yX6_does, Cond.code yX6_does cX6_does 4 none, Cond.fieldLink RX6 19 "EntryMastersModel" "entry" "[I", Cond.fieldLink RX6 16 "EntryMastersModel" "kind" "[I", Cond.fieldLink RX6 28 "EntryMastersModel" "which" "[I", Cond.fieldLink RX6 25 "EntryMastersModel" "named" "[I", Cond.fieldLink RX6 22 "EntryMastersModel" "under" "[I", Cond.fieldLink RX6 31 "EntryMastersModel" "worth" "[I", Cond.methodLink RX6 99 yX6_hangs]
def wsX6_parentOf_r3 : List Cond := [Cond.instanceMethod yX6_hangs, Cond.selects RX6 yX6_hangs yX6_hangs, Cond.code yX6_hangs cX6_hangs 3 none, Cond.methodLink RX6 95 yX6_finds, Cond.instanceMethod yX6_finds, Cond.selects RX6 yX6_finds yX6_finds, Cond.code yX6_finds cX6_finds 6 (some .int), Cond.methodLink RX6 91 yX6_alike, Cond.static yX6_alike, Cond.code yX6_alike cX6_alike 2 (some .boolean), Cond.methodLink RX6 103 yX6_allowed, Cond.instanceMethod yX6_allowed, Cond.selects RX6 yX6_allowed yX6_allowed, Cond.code yX6_allowed cX6_allowed 3 (some .boolean), Cond.fieldLink RX6 13 "EntryMastersModel" "allows" "[I", Cond.methodLink RX6 106 yX6_isWithin, Cond.instanceMethod yX6_isWithin, Cond.selects RX6 yX6_isWithin yX6_isWithin, Cond.code yX6_isWithin cX6_isWithin 4 (some .boolean)]
def wsX6_parentOf : List Cond := .code yX6_parentOf cX6_parentOf 3 (some .int) :: ((wsX6_parentOf_r1 ++ (wsX6_parentOf_r2 ++ wsX6_parentOf_r3)) ++ wsX60)
def wsX6_labelOf_r1 : List Cond := [Cond.fieldLink RX6 68 "EntryMastersModel" "label" "[I", Cond.methodLink RX6 140 yX6_asks, Cond.instanceMethod yX6_asks, Cond.selects RX6 yX6_asks yX6_asks, Cond.initialized RX6, Cond.code yX6_asks cX6_asks 3 (some .boolean), Cond.fieldLink RX6 80 "EntryMastersModel" "thrown" "I", Cond.methodLink RX6 127 yX6_isHere, Cond.instanceMethod yX6_isHere, Cond.selects RX6 yX6_isHere yX6_isHere, Cond.code yX6_isHere cX6_isHere 3 (some .boolean), Cond.fieldLink RX6 62 "EntryMastersModel" "there" "[Z", Cond.methodLink RX6 120 yX6_isMaster, Cond.static yX6_isMaster, Cond.code yX6_isMaster cX6_isMaster 1 (some .boolean), Cond.methodLink RX6 84 yX6_isIn, Cond.static yX6_isIn, Cond.code yX6_isIn cX6_isIn 3 (some .boolean), Cond.methodLink RX6 124 yX6_grows, Cond.instanceMethod yX6_grows, Cond.selects RX6 yX6_grows yX6_grows, Cond.code yX6_grows cX6_grows 4 none, Cond.fieldLink RX6 65 "EntryMastersModel" "parent" "[I", Cond.fieldLink RX6 71 "EntryMastersModel" "its" "[I"]
def wsX6_labelOf_r2 : List Cond := [Cond.fieldLink RX6 74 "EntryMastersModel" "value" "[I", Cond.fieldLink RX6 34 "EntryMastersModel" "time" "[I", Cond.fieldLink RX6 37 "EntryMastersModel" "maker" "[I", Cond.methodLink RX6 112 yX6_next, Cond.instanceMethod yX6_next, Cond.selects RX6 yX6_next yX6_next, Cond.code yX6_next cX6_next 6 (some .int), Cond.fieldLink RX6 88 "EntryMastersModel" "changes" "I", Cond.methodLink RX6 109 yX6_knows, Cond.instanceMethod yX6_knows, Cond.selects RX6 yX6_knows yX6_knows, Cond.code yX6_knows cX6_knows 3 (some .boolean), Cond.fieldLink RX6 40 "EntryMastersModel" "known" "[I", Cond.methodLink RX6 116 yX6_does, Cond.instanceMethod yX6_does, Cond.selects RX6 yX6_does yX6_does, Cond.code yX6_does cX6_does 4 none, Cond.fieldLink RX6 19 "EntryMastersModel" "entry" "[I", Cond.fieldLink RX6 16 "EntryMastersModel" "kind" "[I", Cond.fieldLink RX6 28 "EntryMastersModel" "which" "[I", Cond.fieldLink RX6 25 "EntryMastersModel" "named" "[I", Cond.fieldLink RX6 22 "EntryMastersModel" "under" "[I", Cond.fieldLink RX6 31 "EntryMastersModel" "worth" "[I", Cond.methodLink RX6 99 yX6_hangs]
def wsX6_labelOf_r3 : List Cond := [Cond.instanceMethod yX6_hangs, Cond.selects RX6 yX6_hangs yX6_hangs, Cond.code yX6_hangs cX6_hangs 3 none, Cond.methodLink RX6 95 yX6_finds, Cond.instanceMethod yX6_finds, Cond.selects RX6 yX6_finds yX6_finds, Cond.code yX6_finds cX6_finds 6 (some .int), Cond.methodLink RX6 91 yX6_alike, Cond.static yX6_alike, Cond.code yX6_alike cX6_alike 2 (some .boolean), Cond.methodLink RX6 103 yX6_allowed, Cond.instanceMethod yX6_allowed, Cond.selects RX6 yX6_allowed yX6_allowed, Cond.code yX6_allowed cX6_allowed 3 (some .boolean), Cond.fieldLink RX6 13 "EntryMastersModel" "allows" "[I", Cond.methodLink RX6 106 yX6_isWithin, Cond.instanceMethod yX6_isWithin, Cond.selects RX6 yX6_isWithin yX6_isWithin, Cond.code yX6_isWithin cX6_isWithin 4 (some .boolean)]
def wsX6_labelOf : List Cond := .code yX6_labelOf cX6_labelOf 3 (some .int) :: ((wsX6_labelOf_r1 ++ (wsX6_labelOf_r2 ++ wsX6_labelOf_r3)) ++ wsX60)
def wsX6_value_r1 : List Cond := [Cond.fieldLink RX6 80 "EntryMastersModel" "thrown" "I", Cond.fieldLink RX6 74 "EntryMastersModel" "value" "[I", Cond.methodLink RX6 127 yX6_isHere, Cond.instanceMethod yX6_isHere, Cond.selects RX6 yX6_isHere yX6_isHere, Cond.initialized RX6, Cond.code yX6_isHere cX6_isHere 3 (some .boolean), Cond.fieldLink RX6 62 "EntryMastersModel" "there" "[Z", Cond.methodLink RX6 120 yX6_isMaster, Cond.static yX6_isMaster, Cond.code yX6_isMaster cX6_isMaster 1 (some .boolean), Cond.methodLink RX6 84 yX6_isIn, Cond.static yX6_isIn, Cond.code yX6_isIn cX6_isIn 3 (some .boolean), Cond.methodLink RX6 124 yX6_grows, Cond.instanceMethod yX6_grows, Cond.selects RX6 yX6_grows yX6_grows, Cond.code yX6_grows cX6_grows 4 none, Cond.fieldLink RX6 65 "EntryMastersModel" "parent" "[I", Cond.fieldLink RX6 68 "EntryMastersModel" "label" "[I", Cond.fieldLink RX6 71 "EntryMastersModel" "its" "[I", Cond.fieldLink RX6 34 "EntryMastersModel" "time" "[I", Cond.fieldLink RX6 37 "EntryMastersModel" "maker" "[I", Cond.methodLink RX6 112 yX6_next]
def wsX6_value_r2 : List Cond := [Cond.instanceMethod yX6_next, Cond.selects RX6 yX6_next yX6_next, Cond.code yX6_next cX6_next 6 (some .int), Cond.fieldLink RX6 88 "EntryMastersModel" "changes" "I", Cond.methodLink RX6 109 yX6_knows, Cond.instanceMethod yX6_knows, Cond.selects RX6 yX6_knows yX6_knows, Cond.code yX6_knows cX6_knows 3 (some .boolean), Cond.fieldLink RX6 40 "EntryMastersModel" "known" "[I", Cond.methodLink RX6 116 yX6_does, Cond.instanceMethod yX6_does, Cond.selects RX6 yX6_does yX6_does, Cond.code yX6_does cX6_does 4 none, Cond.fieldLink RX6 19 "EntryMastersModel" "entry" "[I", Cond.fieldLink RX6 16 "EntryMastersModel" "kind" "[I", Cond.fieldLink RX6 28 "EntryMastersModel" "which" "[I", Cond.fieldLink RX6 25 "EntryMastersModel" "named" "[I", Cond.fieldLink RX6 22 "EntryMastersModel" "under" "[I", Cond.fieldLink RX6 31 "EntryMastersModel" "worth" "[I", Cond.methodLink RX6 99 yX6_hangs, Cond.instanceMethod yX6_hangs, Cond.selects RX6 yX6_hangs yX6_hangs, Cond.code yX6_hangs cX6_hangs 3 none, Cond.methodLink RX6 95 yX6_finds]
def wsX6_value_r3 : List Cond := [Cond.instanceMethod yX6_finds, Cond.selects RX6 yX6_finds yX6_finds, Cond.code yX6_finds cX6_finds 6 (some .int), Cond.methodLink RX6 91 yX6_alike, Cond.static yX6_alike, Cond.code yX6_alike cX6_alike 2 (some .boolean), Cond.methodLink RX6 103 yX6_allowed, Cond.instanceMethod yX6_allowed, Cond.selects RX6 yX6_allowed yX6_allowed, Cond.code yX6_allowed cX6_allowed 3 (some .boolean), Cond.fieldLink RX6 13 "EntryMastersModel" "allows" "[I", Cond.methodLink RX6 106 yX6_isWithin, Cond.instanceMethod yX6_isWithin, Cond.selects RX6 yX6_isWithin yX6_isWithin, Cond.code yX6_isWithin cX6_isWithin 4 (some .boolean)]
def wsX6_value : List Cond := .code yX6_value cX6_value 4 (some .int) :: ((wsX6_value_r1 ++ (wsX6_value_r2 ++ wsX6_value_r3)) ++ wsX60)
def wsX6_isWhole_r1 : List Cond := [Cond.fieldLink RX6 7 "EntryMastersModel" "needs" "[I", Cond.fieldLink RX6 71 "EntryMastersModel" "its" "[I", Cond.fieldLink RX6 74 "EntryMastersModel" "value" "[I", Cond.methodLink RX6 140 yX6_asks, Cond.instanceMethod yX6_asks, Cond.selects RX6 yX6_asks yX6_asks, Cond.initialized RX6, Cond.code yX6_asks cX6_asks 3 (some .boolean), Cond.fieldLink RX6 80 "EntryMastersModel" "thrown" "I", Cond.methodLink RX6 127 yX6_isHere, Cond.instanceMethod yX6_isHere, Cond.selects RX6 yX6_isHere yX6_isHere, Cond.code yX6_isHere cX6_isHere 3 (some .boolean), Cond.fieldLink RX6 62 "EntryMastersModel" "there" "[Z", Cond.methodLink RX6 120 yX6_isMaster, Cond.static yX6_isMaster, Cond.code yX6_isMaster cX6_isMaster 1 (some .boolean), Cond.methodLink RX6 84 yX6_isIn, Cond.static yX6_isIn, Cond.code yX6_isIn cX6_isIn 3 (some .boolean), Cond.methodLink RX6 124 yX6_grows, Cond.instanceMethod yX6_grows, Cond.selects RX6 yX6_grows yX6_grows, Cond.code yX6_grows cX6_grows 4 none]
def wsX6_isWhole_r2 : List Cond := [Cond.fieldLink RX6 65 "EntryMastersModel" "parent" "[I", Cond.fieldLink RX6 68 "EntryMastersModel" "label" "[I", Cond.fieldLink RX6 34 "EntryMastersModel" "time" "[I", Cond.fieldLink RX6 37 "EntryMastersModel" "maker" "[I", Cond.methodLink RX6 112 yX6_next, Cond.instanceMethod yX6_next, Cond.selects RX6 yX6_next yX6_next, Cond.code yX6_next cX6_next 6 (some .int), Cond.fieldLink RX6 88 "EntryMastersModel" "changes" "I", Cond.methodLink RX6 109 yX6_knows, Cond.instanceMethod yX6_knows, Cond.selects RX6 yX6_knows yX6_knows, Cond.code yX6_knows cX6_knows 3 (some .boolean), Cond.fieldLink RX6 40 "EntryMastersModel" "known" "[I", Cond.methodLink RX6 116 yX6_does, Cond.instanceMethod yX6_does, Cond.selects RX6 yX6_does yX6_does, Cond.code yX6_does cX6_does 4 none, Cond.fieldLink RX6 19 "EntryMastersModel" "entry" "[I", Cond.fieldLink RX6 16 "EntryMastersModel" "kind" "[I", Cond.fieldLink RX6 28 "EntryMastersModel" "which" "[I", Cond.fieldLink RX6 25 "EntryMastersModel" "named" "[I", Cond.fieldLink RX6 22 "EntryMastersModel" "under" "[I", Cond.fieldLink RX6 31 "EntryMastersModel" "worth" "[I"]
def wsX6_isWhole_r3 : List Cond := [Cond.methodLink RX6 99 yX6_hangs, Cond.instanceMethod yX6_hangs, Cond.selects RX6 yX6_hangs yX6_hangs, Cond.code yX6_hangs cX6_hangs 3 none, Cond.methodLink RX6 95 yX6_finds, Cond.instanceMethod yX6_finds, Cond.selects RX6 yX6_finds yX6_finds, Cond.code yX6_finds cX6_finds 6 (some .int), Cond.methodLink RX6 91 yX6_alike, Cond.static yX6_alike, Cond.code yX6_alike cX6_alike 2 (some .boolean), Cond.methodLink RX6 103 yX6_allowed, Cond.instanceMethod yX6_allowed, Cond.selects RX6 yX6_allowed yX6_allowed, Cond.code yX6_allowed cX6_allowed 3 (some .boolean), Cond.fieldLink RX6 13 "EntryMastersModel" "allows" "[I", Cond.methodLink RX6 106 yX6_isWithin, Cond.instanceMethod yX6_isWithin, Cond.selects RX6 yX6_isWithin yX6_isWithin, Cond.code yX6_isWithin cX6_isWithin 4 (some .boolean)]
def wsX6_isWhole : List Cond := .code yX6_isWhole cX6_isWhole 5 (some .boolean) :: ((wsX6_isWhole_r1 ++ (wsX6_isWhole_r2 ++ wsX6_isWhole_r3)) ++ wsX60)
def wsX6_find_r1 : List Cond := [Cond.fieldLink RX6 80 "EntryMastersModel" "thrown" "I", Cond.methodLink RX6 127 yX6_isHere, Cond.instanceMethod yX6_isHere, Cond.selects RX6 yX6_isHere yX6_isHere, Cond.initialized RX6, Cond.code yX6_isHere cX6_isHere 3 (some .boolean), Cond.fieldLink RX6 62 "EntryMastersModel" "there" "[Z", Cond.methodLink RX6 120 yX6_isMaster, Cond.static yX6_isMaster, Cond.code yX6_isMaster cX6_isMaster 1 (some .boolean), Cond.methodLink RX6 84 yX6_isIn, Cond.static yX6_isIn, Cond.code yX6_isIn cX6_isIn 3 (some .boolean), Cond.methodLink RX6 124 yX6_grows, Cond.instanceMethod yX6_grows, Cond.selects RX6 yX6_grows yX6_grows, Cond.code yX6_grows cX6_grows 4 none, Cond.fieldLink RX6 65 "EntryMastersModel" "parent" "[I", Cond.fieldLink RX6 68 "EntryMastersModel" "label" "[I", Cond.fieldLink RX6 71 "EntryMastersModel" "its" "[I", Cond.fieldLink RX6 74 "EntryMastersModel" "value" "[I", Cond.fieldLink RX6 34 "EntryMastersModel" "time" "[I", Cond.fieldLink RX6 37 "EntryMastersModel" "maker" "[I", Cond.methodLink RX6 112 yX6_next]
def wsX6_find_r2 : List Cond := [Cond.instanceMethod yX6_next, Cond.selects RX6 yX6_next yX6_next, Cond.code yX6_next cX6_next 6 (some .int), Cond.fieldLink RX6 88 "EntryMastersModel" "changes" "I", Cond.methodLink RX6 109 yX6_knows, Cond.instanceMethod yX6_knows, Cond.selects RX6 yX6_knows yX6_knows, Cond.code yX6_knows cX6_knows 3 (some .boolean), Cond.fieldLink RX6 40 "EntryMastersModel" "known" "[I", Cond.methodLink RX6 116 yX6_does, Cond.instanceMethod yX6_does, Cond.selects RX6 yX6_does yX6_does, Cond.code yX6_does cX6_does 4 none, Cond.fieldLink RX6 19 "EntryMastersModel" "entry" "[I", Cond.fieldLink RX6 16 "EntryMastersModel" "kind" "[I", Cond.fieldLink RX6 28 "EntryMastersModel" "which" "[I", Cond.fieldLink RX6 25 "EntryMastersModel" "named" "[I", Cond.fieldLink RX6 22 "EntryMastersModel" "under" "[I", Cond.fieldLink RX6 31 "EntryMastersModel" "worth" "[I", Cond.methodLink RX6 99 yX6_hangs, Cond.instanceMethod yX6_hangs, Cond.selects RX6 yX6_hangs yX6_hangs, Cond.code yX6_hangs cX6_hangs 3 none, Cond.methodLink RX6 95 yX6_finds]
def wsX6_find_r3 : List Cond := [Cond.instanceMethod yX6_finds, Cond.selects RX6 yX6_finds yX6_finds, Cond.code yX6_finds cX6_finds 6 (some .int), Cond.methodLink RX6 91 yX6_alike, Cond.static yX6_alike, Cond.code yX6_alike cX6_alike 2 (some .boolean), Cond.methodLink RX6 103 yX6_allowed, Cond.instanceMethod yX6_allowed, Cond.selects RX6 yX6_allowed yX6_allowed, Cond.code yX6_allowed cX6_allowed 3 (some .boolean), Cond.fieldLink RX6 13 "EntryMastersModel" "allows" "[I", Cond.methodLink RX6 106 yX6_isWithin, Cond.instanceMethod yX6_isWithin, Cond.selects RX6 yX6_isWithin yX6_isWithin, Cond.code yX6_isWithin cX6_isWithin 4 (some .boolean)]
def wsX6_find : List Cond := .code yX6_find cX6_find 4 (some .int) :: ((wsX6_find_r1 ++ (wsX6_find_r2 ++ wsX6_find_r3)) ++ wsX60)
def wsX6_told : List Cond := .code yX6_told cX6_told 3 (some .int) :: ([.fieldLink RX6 62 "EntryMastersModel" "there" "[Z", .fieldLink RX6 65 "EntryMastersModel" "parent" "[I", .fieldLink RX6 68 "EntryMastersModel" "label" "[I", .fieldLink RX6 71 "EntryMastersModel" "its" "[I", .fieldLink RX6 74 "EntryMastersModel" "value" "[I"] ++ wsX60)
def wsX6_areAlike_r1 : List Cond := [Cond.fieldLink RX6 80 "EntryMastersModel" "thrown" "I", Cond.fieldLink RX6 77 "EntryMastersModel" "other" "[I", Cond.methodLink RX6 124 yX6_grows, Cond.instanceMethod yX6_grows, Cond.selects RX6 yX6_grows yX6_grows, Cond.initialized RX6, Cond.code yX6_grows cX6_grows 4 none, Cond.fieldLink RX6 62 "EntryMastersModel" "there" "[Z", Cond.fieldLink RX6 65 "EntryMastersModel" "parent" "[I", Cond.fieldLink RX6 68 "EntryMastersModel" "label" "[I", Cond.fieldLink RX6 71 "EntryMastersModel" "its" "[I", Cond.fieldLink RX6 74 "EntryMastersModel" "value" "[I", Cond.fieldLink RX6 34 "EntryMastersModel" "time" "[I", Cond.fieldLink RX6 37 "EntryMastersModel" "maker" "[I", Cond.methodLink RX6 112 yX6_next, Cond.instanceMethod yX6_next, Cond.selects RX6 yX6_next yX6_next, Cond.code yX6_next cX6_next 6 (some .int), Cond.fieldLink RX6 88 "EntryMastersModel" "changes" "I", Cond.methodLink RX6 109 yX6_knows, Cond.instanceMethod yX6_knows, Cond.selects RX6 yX6_knows yX6_knows, Cond.code yX6_knows cX6_knows 3 (some .boolean), Cond.fieldLink RX6 40 "EntryMastersModel" "known" "[I"]
def wsX6_areAlike_r2 : List Cond := [Cond.methodLink RX6 116 yX6_does, Cond.instanceMethod yX6_does, Cond.selects RX6 yX6_does yX6_does, Cond.code yX6_does cX6_does 4 none, Cond.fieldLink RX6 19 "EntryMastersModel" "entry" "[I", Cond.fieldLink RX6 16 "EntryMastersModel" "kind" "[I", Cond.fieldLink RX6 28 "EntryMastersModel" "which" "[I", Cond.fieldLink RX6 25 "EntryMastersModel" "named" "[I", Cond.fieldLink RX6 22 "EntryMastersModel" "under" "[I", Cond.fieldLink RX6 31 "EntryMastersModel" "worth" "[I", Cond.methodLink RX6 99 yX6_hangs, Cond.instanceMethod yX6_hangs, Cond.selects RX6 yX6_hangs yX6_hangs, Cond.code yX6_hangs cX6_hangs 3 none, Cond.methodLink RX6 95 yX6_finds, Cond.instanceMethod yX6_finds, Cond.selects RX6 yX6_finds yX6_finds, Cond.code yX6_finds cX6_finds 6 (some .int), Cond.methodLink RX6 91 yX6_alike, Cond.static yX6_alike, Cond.code yX6_alike cX6_alike 2 (some .boolean), Cond.methodLink RX6 103 yX6_allowed, Cond.instanceMethod yX6_allowed, Cond.selects RX6 yX6_allowed yX6_allowed]
def wsX6_areAlike_r3 : List Cond := [Cond.code yX6_allowed cX6_allowed 3 (some .boolean), Cond.fieldLink RX6 13 "EntryMastersModel" "allows" "[I", Cond.methodLink RX6 106 yX6_isWithin, Cond.instanceMethod yX6_isWithin, Cond.selects RX6 yX6_isWithin yX6_isWithin, Cond.code yX6_isWithin cX6_isWithin 4 (some .boolean), Cond.methodLink RX6 143 yX6_told, Cond.instanceMethod yX6_told, Cond.selects RX6 yX6_told yX6_told, Cond.code yX6_told cX6_told 3 (some .int)]
def wsX6_areAlike : List Cond := .code yX6_areAlike cX6_areAlike 3 (some .boolean) :: ((wsX6_areAlike_r1 ++ (wsX6_areAlike_r2 ++ wsX6_areAlike_r3)) ++ wsX60)
def wsX6_setRight : List Cond := .code yX6_setRight cX6_setRight 4 none :: ([.fieldLink RX6 80 "EntryMastersModel" "thrown" "I", .fieldLink RX6 43 "EntryMastersModel" "right" "[I", .methodLink RX6 84 yX6_isIn, .static yX6_isIn, .initialized RX6, .code yX6_isIn cX6_isIn 3 (some .boolean)] ++ wsX60)
def wsX6_refer : List Cond := .code yX6_refer cX6_refer 3 none :: ([.fieldLink RX6 80 "EntryMastersModel" "thrown" "I", .fieldLink RX6 46 "EntryMastersModel" "referral" "[Z", .methodLink RX6 84 yX6_isIn, .static yX6_isIn, .initialized RX6, .code yX6_isIn cX6_isIn 3 (some .boolean)] ++ wsX60)
def wsX6_makes : List Cond := .code yX6_makes cX6_makes 4 (some .int) :: ([.fieldLink RX6 50 "EntryMastersModel" "sort" "[I", .fieldLink RX6 146 "EntryMastersModel" "filters" "I", .fieldLink RX6 53 "EntryMastersModel" "first" "[I", .fieldLink RX6 56 "EntryMastersModel" "second" "[I"] ++ wsX60)
def wsX6_test : List Cond := .code yX6_test cX6_test 5 (some .int) :: ([.fieldLink RX6 146 "EntryMastersModel" "filters" "I", .fieldLink RX6 80 "EntryMastersModel" "thrown" "I", .methodLink RX6 84 yX6_isIn, .static yX6_isIn, .initialized RX6, .code yX6_isIn cX6_isIn 3 (some .boolean), .methodLink RX6 149 yX6_makes, .instanceMethod yX6_makes, .selects RX6 yX6_makes yX6_makes, .code yX6_makes cX6_makes 4 (some .int), .fieldLink RX6 50 "EntryMastersModel" "sort" "[I", .fieldLink RX6 53 "EntryMastersModel" "first" "[I", .fieldLink RX6 56 "EntryMastersModel" "second" "[I"] ++ wsX60)
def wsX6_isFilter : List Cond := .code yX6_isFilter cX6_isFilter 2 (some .boolean) :: ([.fieldLink RX6 146 "EntryMastersModel" "filters" "I", .methodLink RX6 84 yX6_isIn, .static yX6_isIn, .initialized RX6, .code yX6_isIn cX6_isIn 3 (some .boolean)] ++ wsX60)
def wsX6_join : List Cond := .code yX6_join cX6_join 4 (some .int) :: ([.fieldLink RX6 146 "EntryMastersModel" "filters" "I", .fieldLink RX6 80 "EntryMastersModel" "thrown" "I", .methodLink RX6 152 yX6_isFilter, .instanceMethod yX6_isFilter, .selects RX6 yX6_isFilter yX6_isFilter, .initialized RX6, .code yX6_isFilter cX6_isFilter 2 (some .boolean), .methodLink RX6 84 yX6_isIn, .static yX6_isIn, .code yX6_isIn cX6_isIn 3 (some .boolean), .methodLink RX6 149 yX6_makes, .instanceMethod yX6_makes, .selects RX6 yX6_makes yX6_makes, .code yX6_makes cX6_makes 4 (some .int), .fieldLink RX6 50 "EntryMastersModel" "sort" "[I", .fieldLink RX6 53 "EntryMastersModel" "first" "[I", .fieldLink RX6 56 "EntryMastersModel" "second" "[I"] ++ wsX60)
def wsX6_tested : List Cond := .code yX6_tested cX6_tested 5 (some .int) :: ([.fieldLink RX6 74 "EntryMastersModel" "value" "[I", .fieldLink RX6 53 "EntryMastersModel" "first" "[I", .fieldLink RX6 50 "EntryMastersModel" "sort" "[I", .fieldLink RX6 56 "EntryMastersModel" "second" "[I", .methodLink RX6 103 yX6_allowed, .instanceMethod yX6_allowed, .selects RX6 yX6_allowed yX6_allowed, .initialized RX6, .code yX6_allowed cX6_allowed 3 (some .boolean), .fieldLink RX6 13 "EntryMastersModel" "allows" "[I", .fieldLink RX6 71 "EntryMastersModel" "its" "[I"] ++ wsX60)
def wsX6_both : List Cond := .code yX6_both cX6_both 2 (some .int) :: ([])
def wsX6_not : List Cond := .code yX6_not cX6_not 1 (some .int) :: ([])
def wsX6_filtered : List Cond := .code yX6_filtered cX6_filtered 6 (some .int) :: ([.fieldLink RX6 50 "EntryMastersModel" "sort" "[I", .fieldLink RX6 59 "EntryMastersModel" "truth" "[I", .fieldLink RX6 53 "EntryMastersModel" "first" "[I", .fieldLink RX6 56 "EntryMastersModel" "second" "[I", .methodLink RX6 155 yX6_tested, .instanceMethod yX6_tested, .selects RX6 yX6_tested yX6_tested, .initialized RX6, .code yX6_tested cX6_tested 5 (some .int), .fieldLink RX6 74 "EntryMastersModel" "value" "[I", .methodLink RX6 103 yX6_allowed, .instanceMethod yX6_allowed, .selects RX6 yX6_allowed yX6_allowed, .code yX6_allowed cX6_allowed 3 (some .boolean), .fieldLink RX6 13 "EntryMastersModel" "allows" "[I", .fieldLink RX6 71 "EntryMastersModel" "its" "[I", .methodLink RX6 158 yX6_both, .static yX6_both, .code yX6_both cX6_both 2 (some .int), .methodLink RX6 161 yX6_not, .static yX6_not, .code yX6_not cX6_not 1 (some .int)] ++ wsX60)
def wsX6_holds_r1 : List Cond := [Cond.fieldLink RX6 80 "EntryMastersModel" "thrown" "I", Cond.methodLink RX6 120 yX6_isMaster, Cond.static yX6_isMaster, Cond.initialized RX6, Cond.code yX6_isMaster cX6_isMaster 1 (some .boolean), Cond.methodLink RX6 84 yX6_isIn, Cond.static yX6_isIn, Cond.code yX6_isIn cX6_isIn 3 (some .boolean), Cond.methodLink RX6 152 yX6_isFilter, Cond.instanceMethod yX6_isFilter, Cond.selects RX6 yX6_isFilter yX6_isFilter, Cond.code yX6_isFilter cX6_isFilter 2 (some .boolean), Cond.fieldLink RX6 146 "EntryMastersModel" "filters" "I", Cond.methodLink RX6 127 yX6_isHere, Cond.instanceMethod yX6_isHere, Cond.selects RX6 yX6_isHere yX6_isHere, Cond.code yX6_isHere cX6_isHere 3 (some .boolean), Cond.fieldLink RX6 62 "EntryMastersModel" "there" "[Z", Cond.methodLink RX6 124 yX6_grows, Cond.instanceMethod yX6_grows, Cond.selects RX6 yX6_grows yX6_grows, Cond.code yX6_grows cX6_grows 4 none, Cond.fieldLink RX6 65 "EntryMastersModel" "parent" "[I", Cond.fieldLink RX6 68 "EntryMastersModel" "label" "[I"]
def wsX6_holds_r2 : List Cond := [Cond.fieldLink RX6 71 "EntryMastersModel" "its" "[I", Cond.fieldLink RX6 74 "EntryMastersModel" "value" "[I", Cond.fieldLink RX6 34 "EntryMastersModel" "time" "[I", Cond.fieldLink RX6 37 "EntryMastersModel" "maker" "[I", Cond.methodLink RX6 112 yX6_next, Cond.instanceMethod yX6_next, Cond.selects RX6 yX6_next yX6_next, Cond.code yX6_next cX6_next 6 (some .int), Cond.fieldLink RX6 88 "EntryMastersModel" "changes" "I", Cond.methodLink RX6 109 yX6_knows, Cond.instanceMethod yX6_knows, Cond.selects RX6 yX6_knows yX6_knows, Cond.code yX6_knows cX6_knows 3 (some .boolean), Cond.fieldLink RX6 40 "EntryMastersModel" "known" "[I", Cond.methodLink RX6 116 yX6_does, Cond.instanceMethod yX6_does, Cond.selects RX6 yX6_does yX6_does, Cond.code yX6_does cX6_does 4 none, Cond.fieldLink RX6 19 "EntryMastersModel" "entry" "[I", Cond.fieldLink RX6 16 "EntryMastersModel" "kind" "[I", Cond.fieldLink RX6 28 "EntryMastersModel" "which" "[I", Cond.fieldLink RX6 25 "EntryMastersModel" "named" "[I", Cond.fieldLink RX6 22 "EntryMastersModel" "under" "[I", Cond.fieldLink RX6 31 "EntryMastersModel" "worth" "[I"]
def wsX6_holds_r3 : List Cond := [Cond.methodLink RX6 99 yX6_hangs, Cond.instanceMethod yX6_hangs, Cond.selects RX6 yX6_hangs yX6_hangs, Cond.code yX6_hangs cX6_hangs 3 none, Cond.methodLink RX6 95 yX6_finds, Cond.instanceMethod yX6_finds, Cond.selects RX6 yX6_finds yX6_finds, Cond.code yX6_finds cX6_finds 6 (some .int), Cond.methodLink RX6 91 yX6_alike, Cond.static yX6_alike, Cond.code yX6_alike cX6_alike 2 (some .boolean), Cond.methodLink RX6 103 yX6_allowed, Cond.instanceMethod yX6_allowed, Cond.selects RX6 yX6_allowed yX6_allowed, Cond.code yX6_allowed cX6_allowed 3 (some .boolean), Cond.fieldLink RX6 13 "EntryMastersModel" "allows" "[I", Cond.methodLink RX6 106 yX6_isWithin, Cond.instanceMethod yX6_isWithin, Cond.selects RX6 yX6_isWithin yX6_isWithin, Cond.code yX6_isWithin cX6_isWithin 4 (some .boolean), Cond.methodLink RX6 164 yX6_filtered, Cond.instanceMethod yX6_filtered, Cond.selects RX6 yX6_filtered yX6_filtered, Cond.code yX6_filtered cX6_filtered 6 (some .int)]
def wsX6_holds_r4 : List Cond := [Cond.fieldLink RX6 50 "EntryMastersModel" "sort" "[I", Cond.fieldLink RX6 59 "EntryMastersModel" "truth" "[I", Cond.fieldLink RX6 53 "EntryMastersModel" "first" "[I", Cond.fieldLink RX6 56 "EntryMastersModel" "second" "[I", Cond.methodLink RX6 155 yX6_tested, Cond.instanceMethod yX6_tested, Cond.selects RX6 yX6_tested yX6_tested, Cond.code yX6_tested cX6_tested 5 (some .int), Cond.methodLink RX6 158 yX6_both, Cond.static yX6_both, Cond.code yX6_both cX6_both 2 (some .int), Cond.methodLink RX6 161 yX6_not, Cond.static yX6_not, Cond.code yX6_not cX6_not 1 (some .int)]
def wsX6_holds : List Cond := .code yX6_holds cX6_holds 4 (some .int) :: ((wsX6_holds_r1 ++ (wsX6_holds_r2 ++ (wsX6_holds_r3 ++ wsX6_holds_r4))) ++ wsX60)
def wsX6_counted : List Cond := .code yX6_counted cX6_counted 4 (some .int) :: ([.fieldLink RX6 43 "EntryMastersModel" "right" "[I", .fieldLink RX6 65 "EntryMastersModel" "parent" "[I"] ++ wsX60)
def wsX6_rank : List Cond := .code yX6_rank cX6_rank 2 (some .int) :: ([.fieldLink RX6 68 "EntryMastersModel" "label" "[I"] ++ wsX60)
def wsX6_behind : List Cond := .code yX6_behind cX6_behind 6 (some .int) :: ([.fieldLink RX6 62 "EntryMastersModel" "there" "[Z", .fieldLink RX6 65 "EntryMastersModel" "parent" "[I", .fieldLink RX6 46 "EntryMastersModel" "referral" "[Z", .methodLink RX6 167 yX6_rank, .instanceMethod yX6_rank, .selects RX6 yX6_rank yX6_rank, .initialized RX6, .code yX6_rank cX6_rank 2 (some .int), .fieldLink RX6 68 "EntryMastersModel" "label" "[I"] ++ wsX60)
def wsX6_goes : List Cond := .code yX6_goes cX6_goes 6 (some .int) :: ([.fieldLink RX6 65 "EntryMastersModel" "parent" "[I", .methodLink RX6 170 yX6_behind, .instanceMethod yX6_behind, .selects RX6 yX6_behind yX6_behind, .initialized RX6, .code yX6_behind cX6_behind 6 (some .int), .fieldLink RX6 62 "EntryMastersModel" "there" "[Z", .fieldLink RX6 46 "EntryMastersModel" "referral" "[Z", .methodLink RX6 167 yX6_rank, .instanceMethod yX6_rank, .selects RX6 yX6_rank yX6_rank, .code yX6_rank cX6_rank 2 (some .int), .fieldLink RX6 68 "EntryMastersModel" "label" "[I"] ++ wsX60)
def wsX6_search_r1 : List Cond := [Cond.fieldLink RX6 80 "EntryMastersModel" "thrown" "I", Cond.methodLink RX6 127 yX6_isHere, Cond.instanceMethod yX6_isHere, Cond.selects RX6 yX6_isHere yX6_isHere, Cond.initialized RX6, Cond.code yX6_isHere cX6_isHere 3 (some .boolean), Cond.fieldLink RX6 62 "EntryMastersModel" "there" "[Z", Cond.methodLink RX6 120 yX6_isMaster, Cond.static yX6_isMaster, Cond.code yX6_isMaster cX6_isMaster 1 (some .boolean), Cond.methodLink RX6 84 yX6_isIn, Cond.static yX6_isIn, Cond.code yX6_isIn cX6_isIn 3 (some .boolean), Cond.methodLink RX6 124 yX6_grows, Cond.instanceMethod yX6_grows, Cond.selects RX6 yX6_grows yX6_grows, Cond.code yX6_grows cX6_grows 4 none, Cond.fieldLink RX6 65 "EntryMastersModel" "parent" "[I", Cond.fieldLink RX6 68 "EntryMastersModel" "label" "[I", Cond.fieldLink RX6 71 "EntryMastersModel" "its" "[I", Cond.fieldLink RX6 74 "EntryMastersModel" "value" "[I", Cond.fieldLink RX6 34 "EntryMastersModel" "time" "[I", Cond.fieldLink RX6 37 "EntryMastersModel" "maker" "[I", Cond.methodLink RX6 112 yX6_next]
def wsX6_search_r2 : List Cond := [Cond.instanceMethod yX6_next, Cond.selects RX6 yX6_next yX6_next, Cond.code yX6_next cX6_next 6 (some .int), Cond.fieldLink RX6 88 "EntryMastersModel" "changes" "I", Cond.methodLink RX6 109 yX6_knows, Cond.instanceMethod yX6_knows, Cond.selects RX6 yX6_knows yX6_knows, Cond.code yX6_knows cX6_knows 3 (some .boolean), Cond.fieldLink RX6 40 "EntryMastersModel" "known" "[I", Cond.methodLink RX6 116 yX6_does, Cond.instanceMethod yX6_does, Cond.selects RX6 yX6_does yX6_does, Cond.code yX6_does cX6_does 4 none, Cond.fieldLink RX6 19 "EntryMastersModel" "entry" "[I", Cond.fieldLink RX6 16 "EntryMastersModel" "kind" "[I", Cond.fieldLink RX6 28 "EntryMastersModel" "which" "[I", Cond.fieldLink RX6 25 "EntryMastersModel" "named" "[I", Cond.fieldLink RX6 22 "EntryMastersModel" "under" "[I", Cond.fieldLink RX6 31 "EntryMastersModel" "worth" "[I", Cond.methodLink RX6 99 yX6_hangs, Cond.instanceMethod yX6_hangs, Cond.selects RX6 yX6_hangs yX6_hangs, Cond.code yX6_hangs cX6_hangs 3 none, Cond.methodLink RX6 95 yX6_finds]
def wsX6_search_r3 : List Cond := [Cond.instanceMethod yX6_finds, Cond.selects RX6 yX6_finds yX6_finds, Cond.code yX6_finds cX6_finds 6 (some .int), Cond.methodLink RX6 91 yX6_alike, Cond.static yX6_alike, Cond.code yX6_alike cX6_alike 2 (some .boolean), Cond.methodLink RX6 103 yX6_allowed, Cond.instanceMethod yX6_allowed, Cond.selects RX6 yX6_allowed yX6_allowed, Cond.code yX6_allowed cX6_allowed 3 (some .boolean), Cond.fieldLink RX6 13 "EntryMastersModel" "allows" "[I", Cond.methodLink RX6 106 yX6_isWithin, Cond.instanceMethod yX6_isWithin, Cond.selects RX6 yX6_isWithin yX6_isWithin, Cond.code yX6_isWithin cX6_isWithin 4 (some .boolean), Cond.methodLink RX6 152 yX6_isFilter, Cond.instanceMethod yX6_isFilter, Cond.selects RX6 yX6_isFilter yX6_isFilter, Cond.code yX6_isFilter cX6_isFilter 2 (some .boolean), Cond.fieldLink RX6 146 "EntryMastersModel" "filters" "I", Cond.methodLink RX6 173 yX6_goes, Cond.instanceMethod yX6_goes, Cond.selects RX6 yX6_goes yX6_goes, Cond.code yX6_goes cX6_goes 6 (some .int)]
def wsX6_search_r4 : List Cond := [Cond.methodLink RX6 170 yX6_behind, Cond.instanceMethod yX6_behind, Cond.selects RX6 yX6_behind yX6_behind, Cond.code yX6_behind cX6_behind 6 (some .int), Cond.fieldLink RX6 46 "EntryMastersModel" "referral" "[Z", Cond.methodLink RX6 167 yX6_rank, Cond.instanceMethod yX6_rank, Cond.selects RX6 yX6_rank yX6_rank, Cond.code yX6_rank cX6_rank 2 (some .int), Cond.methodLink RX6 164 yX6_filtered, Cond.instanceMethod yX6_filtered, Cond.selects RX6 yX6_filtered yX6_filtered, Cond.code yX6_filtered cX6_filtered 6 (some .int), Cond.fieldLink RX6 50 "EntryMastersModel" "sort" "[I", Cond.fieldLink RX6 59 "EntryMastersModel" "truth" "[I", Cond.fieldLink RX6 53 "EntryMastersModel" "first" "[I", Cond.fieldLink RX6 56 "EntryMastersModel" "second" "[I", Cond.methodLink RX6 155 yX6_tested, Cond.instanceMethod yX6_tested, Cond.selects RX6 yX6_tested yX6_tested, Cond.code yX6_tested cX6_tested 5 (some .int), Cond.methodLink RX6 158 yX6_both, Cond.static yX6_both, Cond.code yX6_both cX6_both 2 (some .int)]
def wsX6_search_r5 : List Cond := [Cond.methodLink RX6 161 yX6_not, Cond.static yX6_not, Cond.code yX6_not cX6_not 1 (some .int), Cond.methodLink RX6 176 yX6_counted, Cond.instanceMethod yX6_counted, Cond.selects RX6 yX6_counted yX6_counted, Cond.code yX6_counted cX6_counted 4 (some .int), Cond.fieldLink RX6 43 "EntryMastersModel" "right" "[I"]
def wsX6_search : List Cond := .code yX6_search cX6_search 11 (some .int) :: ((wsX6_search_r1 ++ (wsX6_search_r2 ++ (wsX6_search_r3 ++ (wsX6_search_r4 ++ wsX6_search_r5)))) ++ wsX60)
abbrev vwCl : List vw_C := [(RX0, TX0, 2), (RX1, TX1, 5), (RX2, TX2, 7), (RX3, TX3, 2), (RX4, TX4, 11), (RX5, TX5, 6), (RX6, TX6, 26)]
end
section
set_option maxRecDepth 20000 in
theorem ggX0_init_J7_fill_53178 : GoodIn wsX0_init wsJ7_fill_53178 := goodIn_r _ [10] (by decide +kernel) (by decide +kernel)
set_option maxRecDepth 20000 in
theorem gX0_init_J7_fill_53178 : GoodIn wsX0_init (va_wsS RX0 18 yJ7_fill_53178 wsJ7_fill_53178) := goodIn_app (goodIn_of _ (by decide +kernel)) ggX0_init_J7_fill_53178
theorem dX0_init_0 : decode cX0_init 0 = .ok (.aload_n 0, 1) := by decide +kernel
theorem dX0_init_1 : decode cX0_init 1 = .ok (.invokespecial 3, 3) := by decide +kernel
theorem dX0_init_4 : decode cX0_init 4 = .ok (.aload_n 0, 1) := by decide +kernel
theorem dX0_init_5 : decode cX0_init 5 = .ok (.iconst 3, 1) := by decide +kernel
theorem dX0_init_6 : decode cX0_init 6 = .ok (.newarray .int, 2) := by decide +kernel
theorem dX0_init_8 : decode cX0_init 8 = .ok (.putfield 9, 3) := by decide +kernel
theorem dX0_init_11 : decode cX0_init 11 = .ok (.aload_n 0, 1) := by decide +kernel
theorem dX0_init_12 : decode cX0_init 12 = .ok (.iconst 3, 1) := by decide +kernel
theorem dX0_init_13 : decode cX0_init 13 = .ok (.newarray .int, 2) := by decide +kernel
theorem dX0_init_15 : decode cX0_init 15 = .ok (.putfield 15, 3) := by decide +kernel
theorem dX0_init_18 : decode cX0_init 18 = .ok (.aload_n 0, 1) := by decide +kernel
theorem dX0_init_19 : decode cX0_init 19 = .ok (.getfield 15, 3) := by decide +kernel
theorem dX0_init_22 : decode cX0_init 22 = .ok (.bipush 15, 2) := by decide +kernel
theorem dX0_init_24 : decode cX0_init 24 = .ok (.invokestatic 18, 3) := by decide +kernel
theorem dX0_init_27 : decode cX0_init 27 = .ok (.return_, 1) := by decide +kernel
set_option maxRecDepth 20000 in
theorem ggX0_define_X5_put : GoodIn wsX0_define wsX5_put := goodIn_r _ [5] (by decide +kernel) (by decide +kernel)
set_option maxRecDepth 20000 in
theorem gX0_define_X5_put_n24 : GoodIn wsX0_define (wsX5_put) := ggX0_define_X5_put
theorem dX0_define_0 : decode cX0_define 0 = .ok (.aload_n 0, 1) := by decide +kernel
theorem dX0_define_1 : decode cX0_define 1 = .ok (.getfield 9, 3) := by decide +kernel
theorem dX0_define_4 : decode cX0_define 4 = .ok (.iload_n 1, 1) := by decide +kernel
theorem dX0_define_5 : decode cX0_define 5 = .ok (.iload_n 2, 1) := by decide +kernel
theorem dX0_define_6 : decode cX0_define 6 = .ok (.invokestatic 24, 3) := by decide +kernel
theorem dX0_define_9 : decode cX0_define 9 = .ok (.aload_n 0, 1) := by decide +kernel
theorem dX0_define_10 : decode cX0_define 10 = .ok (.getfield 15, 3) := by decide +kernel
theorem dX0_define_13 : decode cX0_define 13 = .ok (.iload_n 1, 1) := by decide +kernel
theorem dX0_define_14 : decode cX0_define 14 = .ok (.iload_n 3, 1) := by decide +kernel
theorem dX0_define_15 : decode cX0_define 15 = .ok (.iload_n 2, 1) := by decide +kernel
theorem dX0_define_16 : decode cX0_define 16 = .ok (.ior, 1) := by decide +kernel
theorem dX0_define_17 : decode cX0_define 17 = .ok (.invokestatic 24, 3) := by decide +kernel
theorem dX0_define_20 : decode cX0_define 20 = .ok (.return_, 1) := by decide +kernel
set_option maxRecDepth 20000 in
theorem ggX0_needs_X0_hasBit : GoodIn wsX0_needs wsX0_hasBit := goodIn_r _ [5] (by decide +kernel) (by decide +kernel)
set_option maxRecDepth 20000 in
theorem gX0_needs_X0_hasBit : GoodIn wsX0_needs (va_wsS RX0 28 yX0_hasBit wsX0_hasBit) := goodIn_app (goodIn_of _ (by decide +kernel)) ggX0_needs_X0_hasBit
theorem dX0_needs_0 : decode cX0_needs 0 = .ok (.iload_n 1, 1) := by decide +kernel
theorem dX0_needs_1 : decode cX0_needs 1 = .ok (.ifCond .lt 25, 3) := by decide +kernel
theorem dX0_needs_4 : decode cX0_needs 4 = .ok (.iload_n 1, 1) := by decide +kernel
theorem dX0_needs_5 : decode cX0_needs 5 = .ok (.iconst 3, 1) := by decide +kernel
theorem dX0_needs_6 : decode cX0_needs 6 = .ok (.if_icmp .ge 20, 3) := by decide +kernel
theorem dX0_needs_9 : decode cX0_needs 9 = .ok (.aload_n 0, 1) := by decide +kernel
theorem dX0_needs_10 : decode cX0_needs 10 = .ok (.getfield 9, 3) := by decide +kernel
theorem dX0_needs_13 : decode cX0_needs 13 = .ok (.iload_n 1, 1) := by decide +kernel
theorem dX0_needs_14 : decode cX0_needs 14 = .ok (.iaload, 1) := by decide +kernel
theorem dX0_needs_15 : decode cX0_needs 15 = .ok (.iload_n 2, 1) := by decide +kernel
theorem dX0_needs_16 : decode cX0_needs 16 = .ok (.invokestatic 28, 3) := by decide +kernel
theorem dX0_needs_19 : decode cX0_needs 19 = .ok (.ifCond .eq 7, 3) := by decide +kernel
theorem dX0_needs_22 : decode cX0_needs 22 = .ok (.iconst 1, 1) := by decide +kernel
theorem dX0_needs_23 : decode cX0_needs 23 = .ok (.goto 4, 3) := by decide +kernel
theorem dX0_needs_26 : decode cX0_needs 26 = .ok (.iconst 0, 1) := by decide +kernel
theorem dX0_needs_27 : decode cX0_needs 27 = .ok (.ireturn, 1) := by decide +kernel
set_option maxRecDepth 20000 in
theorem ggX0_allows_X0_hasBit : GoodIn wsX0_allows wsX0_hasBit := goodIn_r _ [5] (by decide +kernel) (by decide +kernel)
set_option maxRecDepth 20000 in
theorem gX0_allows_X0_hasBit : GoodIn wsX0_allows (va_wsS RX0 28 yX0_hasBit wsX0_hasBit) := goodIn_app (goodIn_of _ (by decide +kernel)) ggX0_allows_X0_hasBit
theorem dX0_allows_0 : decode cX0_allows 0 = .ok (.iload_n 1, 1) := by decide +kernel
theorem dX0_allows_1 : decode cX0_allows 1 = .ok (.ifCond .lt 25, 3) := by decide +kernel
theorem dX0_allows_4 : decode cX0_allows 4 = .ok (.iload_n 1, 1) := by decide +kernel
theorem dX0_allows_5 : decode cX0_allows 5 = .ok (.iconst 3, 1) := by decide +kernel
theorem dX0_allows_6 : decode cX0_allows 6 = .ok (.if_icmp .ge 20, 3) := by decide +kernel
theorem dX0_allows_9 : decode cX0_allows 9 = .ok (.aload_n 0, 1) := by decide +kernel
theorem dX0_allows_10 : decode cX0_allows 10 = .ok (.getfield 15, 3) := by decide +kernel
theorem dX0_allows_13 : decode cX0_allows 13 = .ok (.iload_n 1, 1) := by decide +kernel
theorem dX0_allows_14 : decode cX0_allows 14 = .ok (.iaload, 1) := by decide +kernel
theorem dX0_allows_15 : decode cX0_allows 15 = .ok (.iload_n 2, 1) := by decide +kernel
theorem dX0_allows_16 : decode cX0_allows 16 = .ok (.invokestatic 28, 3) := by decide +kernel
theorem dX0_allows_19 : decode cX0_allows 19 = .ok (.ifCond .eq 7, 3) := by decide +kernel
theorem dX0_allows_22 : decode cX0_allows 22 = .ok (.iconst 1, 1) := by decide +kernel
theorem dX0_allows_23 : decode cX0_allows 23 = .ok (.goto 4, 3) := by decide +kernel
theorem dX0_allows_26 : decode cX0_allows 26 = .ok (.iconst 0, 1) := by decide +kernel
theorem dX0_allows_27 : decode cX0_allows 27 = .ok (.ireturn, 1) := by decide +kernel
theorem dX0_hasBit_0 : decode cX0_hasBit 0 = .ok (.iload_n 0, 1) := by decide +kernel
theorem dX0_hasBit_1 : decode cX0_hasBit 1 = .ok (.iload_n 1, 1) := by decide +kernel
theorem dX0_hasBit_2 : decode cX0_hasBit 2 = .ok (.ishr, 1) := by decide +kernel
theorem dX0_hasBit_3 : decode cX0_hasBit 3 = .ok (.iconst 1, 1) := by decide +kernel
theorem dX0_hasBit_4 : decode cX0_hasBit 4 = .ok (.iand, 1) := by decide +kernel
theorem dX0_hasBit_5 : decode cX0_hasBit 5 = .ok (.iconst 1, 1) := by decide +kernel
theorem dX0_hasBit_6 : decode cX0_hasBit 6 = .ok (.if_icmp .ne 7, 3) := by decide +kernel
theorem dX0_hasBit_9 : decode cX0_hasBit 9 = .ok (.iconst 1, 1) := by decide +kernel
theorem dX0_hasBit_10 : decode cX0_hasBit 10 = .ok (.goto 4, 3) := by decide +kernel
theorem dX0_hasBit_13 : decode cX0_hasBit 13 = .ok (.iconst 0, 1) := by decide +kernel
theorem dX0_hasBit_14 : decode cX0_hasBit 14 = .ok (.ireturn, 1) := by decide +kernel
theorem dX1_init_0 : decode cX1_init 0 = .ok (.aload_n 0, 1) := by decide +kernel
theorem dX1_init_1 : decode cX1_init 1 = .ok (.invokespecial 3, 3) := by decide +kernel
theorem dX1_init_4 : decode cX1_init 4 = .ok (.aload_n 0, 1) := by decide +kernel
theorem dX1_init_5 : decode cX1_init 5 = .ok (.bipush 20, 2) := by decide +kernel
theorem dX1_init_7 : decode cX1_init 7 = .ok (.newarray .int, 2) := by decide +kernel
theorem dX1_init_9 : decode cX1_init 9 = .ok (.putfield 9, 3) := by decide +kernel
theorem dX1_init_12 : decode cX1_init 12 = .ok (.aload_n 0, 1) := by decide +kernel
theorem dX1_init_13 : decode cX1_init 13 = .ok (.bipush 20, 2) := by decide +kernel
theorem dX1_init_15 : decode cX1_init 15 = .ok (.newarray .int, 2) := by decide +kernel
theorem dX1_init_17 : decode cX1_init 17 = .ok (.putfield 15, 3) := by decide +kernel
theorem dX1_init_20 : decode cX1_init 20 = .ok (.aload_n 0, 1) := by decide +kernel
theorem dX1_init_21 : decode cX1_init 21 = .ok (.bipush 20, 2) := by decide +kernel
theorem dX1_init_23 : decode cX1_init 23 = .ok (.newarray .int, 2) := by decide +kernel
theorem dX1_init_25 : decode cX1_init 25 = .ok (.putfield 18, 3) := by decide +kernel
theorem dX1_init_28 : decode cX1_init 28 = .ok (.aload_n 0, 1) := by decide +kernel
theorem dX1_init_29 : decode cX1_init 29 = .ok (.bipush 20, 2) := by decide +kernel
theorem dX1_init_31 : decode cX1_init 31 = .ok (.newarray .int, 2) := by decide +kernel
theorem dX1_init_33 : decode cX1_init 33 = .ok (.putfield 21, 3) := by decide +kernel
theorem dX1_init_36 : decode cX1_init 36 = .ok (.return_, 1) := by decide +kernel
set_option maxRecDepth 20000 in
theorem ggX1_append_X5_put : GoodIn wsX1_append wsX5_put := goodIn_r _ [7] (by decide +kernel) (by decide +kernel)
set_option maxRecDepth 20000 in
theorem gX1_append_X5_put_n28 : GoodIn wsX1_append (wsX5_put) := ggX1_append_X5_put
theorem dX1_append_0 : decode cX1_append 0 = .ok (.aload_n 0, 1) := by decide +kernel
theorem dX1_append_1 : decode cX1_append 1 = .ok (.getfield 24, 3) := by decide +kernel
theorem dX1_append_4 : decode cX1_append 4 = .ok (.istore 4, 2) := by decide +kernel
theorem dX1_append_6 : decode cX1_append 6 = .ok (.aload_n 0, 1) := by decide +kernel
theorem dX1_append_7 : decode cX1_append 7 = .ok (.getfield 9, 3) := by decide +kernel
theorem dX1_append_10 : decode cX1_append 10 = .ok (.iload 4, 2) := by decide +kernel
theorem dX1_append_12 : decode cX1_append 12 = .ok (.iload_n 1, 1) := by decide +kernel
theorem dX1_append_13 : decode cX1_append 13 = .ok (.invokestatic 28, 3) := by decide +kernel
theorem dX1_append_16 : decode cX1_append 16 = .ok (.aload_n 0, 1) := by decide +kernel
theorem dX1_append_17 : decode cX1_append 17 = .ok (.getfield 15, 3) := by decide +kernel
theorem dX1_append_20 : decode cX1_append 20 = .ok (.iload 4, 2) := by decide +kernel
theorem dX1_append_22 : decode cX1_append 22 = .ok (.iload_n 2, 1) := by decide +kernel
theorem dX1_append_23 : decode cX1_append 23 = .ok (.invokestatic 28, 3) := by decide +kernel
theorem dX1_append_26 : decode cX1_append 26 = .ok (.aload_n 0, 1) := by decide +kernel
theorem dX1_append_27 : decode cX1_append 27 = .ok (.getfield 18, 3) := by decide +kernel
theorem dX1_append_30 : decode cX1_append 30 = .ok (.iload 4, 2) := by decide +kernel
theorem dX1_append_32 : decode cX1_append 32 = .ok (.iload_n 3, 1) := by decide +kernel
theorem dX1_append_33 : decode cX1_append 33 = .ok (.invokestatic 28, 3) := by decide +kernel
theorem dX1_append_36 : decode cX1_append 36 = .ok (.aload_n 0, 1) := by decide +kernel
theorem dX1_append_37 : decode cX1_append 37 = .ok (.dup, 1) := by decide +kernel
theorem dX1_append_38 : decode cX1_append 38 = .ok (.getfield 24, 3) := by decide +kernel
theorem dX1_append_41 : decode cX1_append 41 = .ok (.iconst 1, 1) := by decide +kernel
theorem dX1_append_42 : decode cX1_append 42 = .ok (.iadd, 1) := by decide +kernel
theorem dX1_append_43 : decode cX1_append 43 = .ok (.putfield 24, 3) := by decide +kernel
theorem dX1_append_46 : decode cX1_append 46 = .ok (.iload 4, 2) := by decide +kernel
theorem dX1_append_48 : decode cX1_append 48 = .ok (.ireturn, 1) := by decide +kernel
set_option maxRecDepth 20000 in
theorem ggX1_truthFor_X1_truthOfTest : GoodIn wsX1_truthFor wsX1_truthOfTest := goodIn_r _ [8, 9, 10, 11, 12, 13, 14, 15, 16, 17, 18, 19, 20, 21, 22, 23, 24, 25, 26, 27, 28, 29, 30, 31, 32, 47, 48, 49, 50, 51, 52, 53, 54, 55, 56, 57, 58, 59] (by decide +kernel) (by decide +kernel)
set_option maxRecDepth 20000 in
theorem gX1_truthFor_X1_truthOfTest : GoodIn wsX1_truthFor (va_wsS RX1 32 yX1_truthOfTest wsX1_truthOfTest) := goodIn_app (goodIn_of _ (by decide +kernel)) ggX1_truthFor_X1_truthOfTest
set_option maxRecDepth 20000 in
theorem ggX1_truthFor_X5_at : GoodIn wsX1_truthFor wsX5_at := goodIn_r _ [18] (by decide +kernel) (by decide +kernel)
set_option maxRecDepth 20000 in
theorem gX1_truthFor_X5_at_n36 : GoodIn wsX1_truthFor (wsX5_at) := ggX1_truthFor_X5_at
set_option maxRecDepth 20000 in
theorem ggX1_truthFor_X1_truthOfJoin : GoodIn wsX1_truthFor wsX1_truthOfJoin := goodIn_r _ [35, 36, 37, 7, 38, 39, 40, 41] (by decide +kernel) (by decide +kernel)
set_option maxRecDepth 20000 in
theorem gX1_truthFor_X1_truthOfJoin : GoodIn wsX1_truthFor (va_wsS RX1 40 yX1_truthOfJoin wsX1_truthOfJoin) := goodIn_app (goodIn_of _ (by decide +kernel)) ggX1_truthFor_X1_truthOfJoin
theorem dX1_truthFor_0 : decode cX1_truthFor 0 = .ok (.iconst 0, 1) := by decide +kernel
theorem dX1_truthFor_1 : decode cX1_truthFor 1 = .ok (.istore 4, 2) := by decide +kernel
theorem dX1_truthFor_3 : decode cX1_truthFor 3 = .ok (.iload 4, 2) := by decide +kernel
theorem dX1_truthFor_5 : decode cX1_truthFor 5 = .ok (.iload_n 1, 1) := by decide +kernel
theorem dX1_truthFor_6 : decode cX1_truthFor 6 = .ok (.if_icmp .gt 93, 3) := by decide +kernel
theorem dX1_truthFor_9 : decode cX1_truthFor 9 = .ok (.iload 4, 2) := by decide +kernel
theorem dX1_truthFor_11 : decode cX1_truthFor 11 = .ok (.bipush 20, 2) := by decide +kernel
theorem dX1_truthFor_13 : decode cX1_truthFor 13 = .ok (.if_icmp .ge 86, 3) := by decide +kernel
theorem dX1_truthFor_16 : decode cX1_truthFor 16 = .ok (.aload_n 0, 1) := by decide +kernel
theorem dX1_truthFor_17 : decode cX1_truthFor 17 = .ok (.getfield 9, 3) := by decide +kernel
theorem dX1_truthFor_20 : decode cX1_truthFor 20 = .ok (.iload 4, 2) := by decide +kernel
theorem dX1_truthFor_22 : decode cX1_truthFor 22 = .ok (.iaload, 1) := by decide +kernel
theorem dX1_truthFor_23 : decode cX1_truthFor 23 = .ok (.istore 5, 2) := by decide +kernel
theorem dX1_truthFor_25 : decode cX1_truthFor 25 = .ok (.aload_n 0, 1) := by decide +kernel
theorem dX1_truthFor_26 : decode cX1_truthFor 26 = .ok (.getfield 15, 3) := by decide +kernel
theorem dX1_truthFor_29 : decode cX1_truthFor 29 = .ok (.iload 4, 2) := by decide +kernel
theorem dX1_truthFor_31 : decode cX1_truthFor 31 = .ok (.iaload, 1) := by decide +kernel
theorem dX1_truthFor_32 : decode cX1_truthFor 32 = .ok (.istore 6, 2) := by decide +kernel
theorem dX1_truthFor_34 : decode cX1_truthFor 34 = .ok (.aload_n 0, 1) := by decide +kernel
theorem dX1_truthFor_35 : decode cX1_truthFor 35 = .ok (.getfield 18, 3) := by decide +kernel
theorem dX1_truthFor_38 : decode cX1_truthFor 38 = .ok (.iload 4, 2) := by decide +kernel
theorem dX1_truthFor_40 : decode cX1_truthFor 40 = .ok (.iaload, 1) := by decide +kernel
theorem dX1_truthFor_41 : decode cX1_truthFor 41 = .ok (.istore 7, 2) := by decide +kernel
theorem dX1_truthFor_43 : decode cX1_truthFor 43 = .ok (.aload_n 0, 1) := by decide +kernel
theorem dX1_truthFor_44 : decode cX1_truthFor 44 = .ok (.getfield 21, 3) := by decide +kernel
theorem dX1_truthFor_47 : decode cX1_truthFor 47 = .ok (.iload 4, 2) := by decide +kernel
theorem dX1_truthFor_49 : decode cX1_truthFor 49 = .ok (.iload 5, 2) := by decide +kernel
theorem dX1_truthFor_51 : decode cX1_truthFor 51 = .ok (.iconst 3, 1) := by decide +kernel
theorem dX1_truthFor_52 : decode cX1_truthFor 52 = .ok (.if_icmp .ge 17, 3) := by decide +kernel
theorem dX1_truthFor_55 : decode cX1_truthFor 55 = .ok (.iload 5, 2) := by decide +kernel
theorem dX1_truthFor_57 : decode cX1_truthFor 57 = .ok (.iload 6, 2) := by decide +kernel
theorem dX1_truthFor_59 : decode cX1_truthFor 59 = .ok (.iload 7, 2) := by decide +kernel
theorem dX1_truthFor_61 : decode cX1_truthFor 61 = .ok (.aload_n 2, 1) := by decide +kernel
theorem dX1_truthFor_62 : decode cX1_truthFor 62 = .ok (.iload_n 3, 1) := by decide +kernel
theorem dX1_truthFor_63 : decode cX1_truthFor 63 = .ok (.invokestatic 32, 3) := by decide +kernel
theorem dX1_truthFor_66 : decode cX1_truthFor 66 = .ok (.goto 26, 3) := by decide +kernel
theorem dX1_truthFor_69 : decode cX1_truthFor 69 = .ok (.iload 5, 2) := by decide +kernel
theorem dX1_truthFor_71 : decode cX1_truthFor 71 = .ok (.aload_n 0, 1) := by decide +kernel
theorem dX1_truthFor_72 : decode cX1_truthFor 72 = .ok (.getfield 21, 3) := by decide +kernel
theorem dX1_truthFor_75 : decode cX1_truthFor 75 = .ok (.iload 6, 2) := by decide +kernel
theorem dX1_truthFor_77 : decode cX1_truthFor 77 = .ok (.invokestatic 36, 3) := by decide +kernel
theorem dX1_truthFor_80 : decode cX1_truthFor 80 = .ok (.aload_n 0, 1) := by decide +kernel
theorem dX1_truthFor_81 : decode cX1_truthFor 81 = .ok (.getfield 21, 3) := by decide +kernel
theorem dX1_truthFor_84 : decode cX1_truthFor 84 = .ok (.iload 7, 2) := by decide +kernel
theorem dX1_truthFor_86 : decode cX1_truthFor 86 = .ok (.invokestatic 36, 3) := by decide +kernel
theorem dX1_truthFor_89 : decode cX1_truthFor 89 = .ok (.invokestatic 40, 3) := by decide +kernel
theorem dX1_truthFor_92 : decode cX1_truthFor 92 = .ok (.iastore, 1) := by decide +kernel
theorem dX1_truthFor_93 : decode cX1_truthFor 93 = .ok (.iinc 4 1, 3) := by decide +kernel
theorem dX1_truthFor_96 : decode cX1_truthFor 96 = .ok (.goto (-93), 3) := by decide +kernel
theorem dX1_truthFor_99 : decode cX1_truthFor 99 = .ok (.aload_n 0, 1) := by decide +kernel
theorem dX1_truthFor_100 : decode cX1_truthFor 100 = .ok (.getfield 21, 3) := by decide +kernel
theorem dX1_truthFor_103 : decode cX1_truthFor 103 = .ok (.iload_n 1, 1) := by decide +kernel
theorem dX1_truthFor_104 : decode cX1_truthFor 104 = .ok (.invokestatic 36, 3) := by decide +kernel
theorem dX1_truthFor_107 : decode cX1_truthFor 107 = .ok (.ireturn, 1) := by decide +kernel
set_option maxRecDepth 20000 in
theorem ggX1_truthOfTest_X4_mayHold : GoodIn wsX1_truthOfTest wsX4_mayHold := goodIn_r _ [5, 6, 7, 8, 9, 10, 11, 12, 13, 14, 15, 16, 17, 18, 19, 25, 26, 27, 28, 29, 30, 31, 32, 33, 34, 35, 36, 37] (by decide +kernel) (by decide +kernel)
set_option maxRecDepth 20000 in
theorem gX1_truthOfTest_X4_mayHold : GoodIn wsX1_truthOfTest (wsV RX1 44 RX4 yX4_mayHold wsX4_mayHold) := goodIn_app (goodIn_of _ (by decide +kernel)) ggX1_truthOfTest_X4_mayHold
set_option maxRecDepth 20000 in
theorem ggX1_truthOfTest_X4_valueAt : GoodIn wsX1_truthOfTest wsX4_valueAt := goodIn_r _ [23, 24, 8, 9, 10, 25, 26, 27, 28, 29, 30, 31, 32, 33, 34, 35] (by decide +kernel) (by decide +kernel)
set_option maxRecDepth 20000 in
theorem gX1_truthOfTest_X4_valueAt : GoodIn wsX1_truthOfTest (wsV RX1 50 RX4 yX4_valueAt wsX4_valueAt) := goodIn_app (goodIn_of _ (by decide +kernel)) ggX1_truthOfTest_X4_valueAt
theorem dX1_truthOfTest_0 : decode cX1_truthOfTest 0 = .ok (.aload_n 3, 1) := by decide +kernel
theorem dX1_truthOfTest_1 : decode cX1_truthOfTest 1 = .ok (.iload 4, 2) := by decide +kernel
theorem dX1_truthOfTest_3 : decode cX1_truthOfTest 3 = .ok (.iload_n 1, 1) := by decide +kernel
theorem dX1_truthOfTest_4 : decode cX1_truthOfTest 4 = .ok (.invokevirtual 44, 3) := by decide +kernel
theorem dX1_truthOfTest_7 : decode cX1_truthOfTest 7 = .ok (.ifCond .ne 5, 3) := by decide +kernel
theorem dX1_truthOfTest_10 : decode cX1_truthOfTest 10 = .ok (.iconst (-1), 1) := by decide +kernel
theorem dX1_truthOfTest_11 : decode cX1_truthOfTest 11 = .ok (.ireturn, 1) := by decide +kernel
theorem dX1_truthOfTest_12 : decode cX1_truthOfTest 12 = .ok (.aload_n 3, 1) := by decide +kernel
theorem dX1_truthOfTest_13 : decode cX1_truthOfTest 13 = .ok (.iload 4, 2) := by decide +kernel
theorem dX1_truthOfTest_15 : decode cX1_truthOfTest 15 = .ok (.iload_n 1, 1) := by decide +kernel
theorem dX1_truthOfTest_16 : decode cX1_truthOfTest 16 = .ok (.invokevirtual 50, 3) := by decide +kernel
theorem dX1_truthOfTest_19 : decode cX1_truthOfTest 19 = .ok (.istore 5, 2) := by decide +kernel
theorem dX1_truthOfTest_21 : decode cX1_truthOfTest 21 = .ok (.iload 5, 2) := by decide +kernel
theorem dX1_truthOfTest_23 : decode cX1_truthOfTest 23 = .ok (.iconst (-1), 1) := by decide +kernel
theorem dX1_truthOfTest_24 : decode cX1_truthOfTest 24 = .ok (.if_icmp .ne 5, 3) := by decide +kernel
theorem dX1_truthOfTest_27 : decode cX1_truthOfTest 27 = .ok (.iconst 0, 1) := by decide +kernel
theorem dX1_truthOfTest_28 : decode cX1_truthOfTest 28 = .ok (.ireturn, 1) := by decide +kernel
theorem dX1_truthOfTest_29 : decode cX1_truthOfTest 29 = .ok (.iload_n 0, 1) := by decide +kernel
theorem dX1_truthOfTest_30 : decode cX1_truthOfTest 30 = .ok (.tableswitch 52 0 2 #[26, 28, 40], 26) := by decide +kernel
theorem dX1_truthOfTest_56 : decode cX1_truthOfTest 56 = .ok (.iconst 1, 1) := by decide +kernel
theorem dX1_truthOfTest_57 : decode cX1_truthOfTest 57 = .ok (.ireturn, 1) := by decide +kernel
theorem dX1_truthOfTest_58 : decode cX1_truthOfTest 58 = .ok (.iload 5, 2) := by decide +kernel
theorem dX1_truthOfTest_60 : decode cX1_truthOfTest 60 = .ok (.iload_n 2, 1) := by decide +kernel
theorem dX1_truthOfTest_61 : decode cX1_truthOfTest 61 = .ok (.if_icmp .ne 7, 3) := by decide +kernel
theorem dX1_truthOfTest_64 : decode cX1_truthOfTest 64 = .ok (.iconst 1, 1) := by decide +kernel
theorem dX1_truthOfTest_65 : decode cX1_truthOfTest 65 = .ok (.goto 4, 3) := by decide +kernel
theorem dX1_truthOfTest_68 : decode cX1_truthOfTest 68 = .ok (.iconst 0, 1) := by decide +kernel
theorem dX1_truthOfTest_69 : decode cX1_truthOfTest 69 = .ok (.ireturn, 1) := by decide +kernel
theorem dX1_truthOfTest_70 : decode cX1_truthOfTest 70 = .ok (.iload 5, 2) := by decide +kernel
theorem dX1_truthOfTest_72 : decode cX1_truthOfTest 72 = .ok (.iload_n 2, 1) := by decide +kernel
theorem dX1_truthOfTest_73 : decode cX1_truthOfTest 73 = .ok (.if_icmp .lt 7, 3) := by decide +kernel
theorem dX1_truthOfTest_76 : decode cX1_truthOfTest 76 = .ok (.iconst 1, 1) := by decide +kernel
theorem dX1_truthOfTest_77 : decode cX1_truthOfTest 77 = .ok (.goto 4, 3) := by decide +kernel
theorem dX1_truthOfTest_80 : decode cX1_truthOfTest 80 = .ok (.iconst 0, 1) := by decide +kernel
theorem dX1_truthOfTest_81 : decode cX1_truthOfTest 81 = .ok (.ireturn, 1) := by decide +kernel
theorem dX1_truthOfTest_82 : decode cX1_truthOfTest 82 = .ok (.iconst (-1), 1) := by decide +kernel
theorem dX1_truthOfTest_83 : decode cX1_truthOfTest 83 = .ok (.ireturn, 1) := by decide +kernel
set_option maxRecDepth 20000 in
theorem ggX1_truthOfJoin_X1_both : GoodIn wsX1_truthOfJoin wsX1_both := goodIn_r _ [4] (by decide +kernel) (by decide +kernel)
set_option maxRecDepth 20000 in
theorem gX1_truthOfJoin_X1_both : GoodIn wsX1_truthOfJoin (va_wsS RX1 54 yX1_both wsX1_both) := goodIn_app (goodIn_of _ (by decide +kernel)) ggX1_truthOfJoin_X1_both
set_option maxRecDepth 20000 in
theorem ggX1_truthOfJoin_X1_opposite : GoodIn wsX1_truthOfJoin wsX1_opposite := goodIn_r _ [7] (by decide +kernel) (by decide +kernel)
set_option maxRecDepth 20000 in
theorem gX1_truthOfJoin_X1_opposite : GoodIn wsX1_truthOfJoin (va_wsS RX1 57 yX1_opposite wsX1_opposite) := goodIn_app (goodIn_of _ (by decide +kernel)) ggX1_truthOfJoin_X1_opposite
theorem dX1_truthOfJoin_0 : decode cX1_truthOfJoin 0 = .ok (.iload_n 0, 1) := by decide +kernel
theorem dX1_truthOfJoin_1 : decode cX1_truthOfJoin 1 = .ok (.tableswitch 53 3 5 #[27, 33, 48], 27) := by decide +kernel
theorem dX1_truthOfJoin_28 : decode cX1_truthOfJoin 28 = .ok (.iload_n 1, 1) := by decide +kernel
theorem dX1_truthOfJoin_29 : decode cX1_truthOfJoin 29 = .ok (.iload_n 2, 1) := by decide +kernel
theorem dX1_truthOfJoin_30 : decode cX1_truthOfJoin 30 = .ok (.invokestatic 54, 3) := by decide +kernel
theorem dX1_truthOfJoin_33 : decode cX1_truthOfJoin 33 = .ok (.ireturn, 1) := by decide +kernel
theorem dX1_truthOfJoin_34 : decode cX1_truthOfJoin 34 = .ok (.iload_n 1, 1) := by decide +kernel
theorem dX1_truthOfJoin_35 : decode cX1_truthOfJoin 35 = .ok (.invokestatic 57, 3) := by decide +kernel
theorem dX1_truthOfJoin_38 : decode cX1_truthOfJoin 38 = .ok (.iload_n 2, 1) := by decide +kernel
theorem dX1_truthOfJoin_39 : decode cX1_truthOfJoin 39 = .ok (.invokestatic 57, 3) := by decide +kernel
theorem dX1_truthOfJoin_42 : decode cX1_truthOfJoin 42 = .ok (.invokestatic 54, 3) := by decide +kernel
theorem dX1_truthOfJoin_45 : decode cX1_truthOfJoin 45 = .ok (.invokestatic 57, 3) := by decide +kernel
theorem dX1_truthOfJoin_48 : decode cX1_truthOfJoin 48 = .ok (.ireturn, 1) := by decide +kernel
theorem dX1_truthOfJoin_49 : decode cX1_truthOfJoin 49 = .ok (.iload_n 1, 1) := by decide +kernel
theorem dX1_truthOfJoin_50 : decode cX1_truthOfJoin 50 = .ok (.invokestatic 57, 3) := by decide +kernel
theorem dX1_truthOfJoin_53 : decode cX1_truthOfJoin 53 = .ok (.ireturn, 1) := by decide +kernel
theorem dX1_truthOfJoin_54 : decode cX1_truthOfJoin 54 = .ok (.iconst (-1), 1) := by decide +kernel
theorem dX1_truthOfJoin_55 : decode cX1_truthOfJoin 55 = .ok (.ireturn, 1) := by decide +kernel
theorem dX1_both_0 : decode cX1_both 0 = .ok (.iload_n 0, 1) := by decide +kernel
theorem dX1_both_1 : decode cX1_both 1 = .ok (.ifCond .eq 7, 3) := by decide +kernel
theorem dX1_both_4 : decode cX1_both 4 = .ok (.iload_n 1, 1) := by decide +kernel
theorem dX1_both_5 : decode cX1_both 5 = .ok (.ifCond .ne 5, 3) := by decide +kernel
theorem dX1_both_8 : decode cX1_both 8 = .ok (.iconst 0, 1) := by decide +kernel
theorem dX1_both_9 : decode cX1_both 9 = .ok (.ireturn, 1) := by decide +kernel
theorem dX1_both_10 : decode cX1_both 10 = .ok (.iload_n 0, 1) := by decide +kernel
theorem dX1_both_11 : decode cX1_both 11 = .ok (.iconst (-1), 1) := by decide +kernel
theorem dX1_both_12 : decode cX1_both 12 = .ok (.if_icmp .eq 8, 3) := by decide +kernel
theorem dX1_both_15 : decode cX1_both 15 = .ok (.iload_n 1, 1) := by decide +kernel
theorem dX1_both_16 : decode cX1_both 16 = .ok (.iconst (-1), 1) := by decide +kernel
theorem dX1_both_17 : decode cX1_both 17 = .ok (.if_icmp .ne 7, 3) := by decide +kernel
theorem dX1_both_20 : decode cX1_both 20 = .ok (.iconst (-1), 1) := by decide +kernel
theorem dX1_both_21 : decode cX1_both 21 = .ok (.goto 4, 3) := by decide +kernel
theorem dX1_both_24 : decode cX1_both 24 = .ok (.iconst 1, 1) := by decide +kernel
theorem dX1_both_25 : decode cX1_both 25 = .ok (.ireturn, 1) := by decide +kernel
theorem dX1_opposite_0 : decode cX1_opposite 0 = .ok (.iload_n 0, 1) := by decide +kernel
theorem dX1_opposite_1 : decode cX1_opposite 1 = .ok (.iconst (-1), 1) := by decide +kernel
theorem dX1_opposite_2 : decode cX1_opposite 2 = .ok (.if_icmp .ne 7, 3) := by decide +kernel
theorem dX1_opposite_5 : decode cX1_opposite 5 = .ok (.iconst (-1), 1) := by decide +kernel
theorem dX1_opposite_6 : decode cX1_opposite 6 = .ok (.goto 6, 3) := by decide +kernel
theorem dX1_opposite_9 : decode cX1_opposite 9 = .ok (.iconst 1, 1) := by decide +kernel
theorem dX1_opposite_10 : decode cX1_opposite 10 = .ok (.iload_n 0, 1) := by decide +kernel
theorem dX1_opposite_11 : decode cX1_opposite 11 = .ok (.isub, 1) := by decide +kernel
theorem dX1_opposite_12 : decode cX1_opposite 12 = .ok (.ireturn, 1) := by decide +kernel
theorem dX2_init_0 : decode cX2_init 0 = .ok (.aload_n 0, 1) := by decide +kernel
theorem dX2_init_1 : decode cX2_init 1 = .ok (.invokespecial 3, 3) := by decide +kernel
theorem dX2_init_4 : decode cX2_init 4 = .ok (.aload_n 0, 1) := by decide +kernel
theorem dX2_init_5 : decode cX2_init 5 = .ok (.bipush 40, 2) := by decide +kernel
theorem dX2_init_7 : decode cX2_init 7 = .ok (.newarray .int, 2) := by decide +kernel
theorem dX2_init_9 : decode cX2_init 9 = .ok (.putfield 9, 3) := by decide +kernel
theorem dX2_init_12 : decode cX2_init 12 = .ok (.aload_n 0, 1) := by decide +kernel
theorem dX2_init_13 : decode cX2_init 13 = .ok (.bipush 40, 2) := by decide +kernel
theorem dX2_init_15 : decode cX2_init 15 = .ok (.newarray .int, 2) := by decide +kernel
theorem dX2_init_17 : decode cX2_init 17 = .ok (.putfield 15, 3) := by decide +kernel
theorem dX2_init_20 : decode cX2_init 20 = .ok (.aload_n 0, 1) := by decide +kernel
theorem dX2_init_21 : decode cX2_init 21 = .ok (.bipush 40, 2) := by decide +kernel
theorem dX2_init_23 : decode cX2_init 23 = .ok (.newarray .int, 2) := by decide +kernel
theorem dX2_init_25 : decode cX2_init 25 = .ok (.putfield 18, 3) := by decide +kernel
theorem dX2_init_28 : decode cX2_init 28 = .ok (.aload_n 0, 1) := by decide +kernel
theorem dX2_init_29 : decode cX2_init 29 = .ok (.bipush 40, 2) := by decide +kernel
theorem dX2_init_31 : decode cX2_init 31 = .ok (.newarray .int, 2) := by decide +kernel
theorem dX2_init_33 : decode cX2_init 33 = .ok (.putfield 21, 3) := by decide +kernel
theorem dX2_init_36 : decode cX2_init 36 = .ok (.aload_n 0, 1) := by decide +kernel
theorem dX2_init_37 : decode cX2_init 37 = .ok (.bipush 40, 2) := by decide +kernel
theorem dX2_init_39 : decode cX2_init 39 = .ok (.newarray .int, 2) := by decide +kernel
theorem dX2_init_41 : decode cX2_init 41 = .ok (.putfield 24, 3) := by decide +kernel
theorem dX2_init_44 : decode cX2_init 44 = .ok (.aload_n 0, 1) := by decide +kernel
theorem dX2_init_45 : decode cX2_init 45 = .ok (.bipush 40, 2) := by decide +kernel
theorem dX2_init_47 : decode cX2_init 47 = .ok (.newarray .int, 2) := by decide +kernel
theorem dX2_init_49 : decode cX2_init 49 = .ok (.putfield 27, 3) := by decide +kernel
theorem dX2_init_52 : decode cX2_init 52 = .ok (.return_, 1) := by decide +kernel
set_option maxRecDepth 20000 in
theorem ggX2_append_X5_put : GoodIn wsX2_append wsX5_put := goodIn_r _ [10] (by decide +kernel) (by decide +kernel)
set_option maxRecDepth 20000 in
theorem gX2_append_X5_put_n34 : GoodIn wsX2_append (wsX5_put) := ggX2_append_X5_put
theorem dX2_append_0 : decode cX2_append 0 = .ok (.aload_n 0, 1) := by decide +kernel
theorem dX2_append_1 : decode cX2_append 1 = .ok (.getfield 30, 3) := by decide +kernel
theorem dX2_append_4 : decode cX2_append 4 = .ok (.istore 7, 2) := by decide +kernel
theorem dX2_append_6 : decode cX2_append 6 = .ok (.aload_n 0, 1) := by decide +kernel
theorem dX2_append_7 : decode cX2_append 7 = .ok (.getfield 9, 3) := by decide +kernel
theorem dX2_append_10 : decode cX2_append 10 = .ok (.iload 7, 2) := by decide +kernel
theorem dX2_append_12 : decode cX2_append 12 = .ok (.iload_n 1, 1) := by decide +kernel
theorem dX2_append_13 : decode cX2_append 13 = .ok (.invokestatic 34, 3) := by decide +kernel
theorem dX2_append_16 : decode cX2_append 16 = .ok (.aload_n 0, 1) := by decide +kernel
theorem dX2_append_17 : decode cX2_append 17 = .ok (.getfield 15, 3) := by decide +kernel
theorem dX2_append_20 : decode cX2_append 20 = .ok (.iload 7, 2) := by decide +kernel
theorem dX2_append_22 : decode cX2_append 22 = .ok (.iload_n 2, 1) := by decide +kernel
theorem dX2_append_23 : decode cX2_append 23 = .ok (.invokestatic 34, 3) := by decide +kernel
theorem dX2_append_26 : decode cX2_append 26 = .ok (.aload_n 0, 1) := by decide +kernel
theorem dX2_append_27 : decode cX2_append 27 = .ok (.getfield 18, 3) := by decide +kernel
theorem dX2_append_30 : decode cX2_append 30 = .ok (.iload 7, 2) := by decide +kernel
theorem dX2_append_32 : decode cX2_append 32 = .ok (.iload_n 3, 1) := by decide +kernel
theorem dX2_append_33 : decode cX2_append 33 = .ok (.invokestatic 34, 3) := by decide +kernel
theorem dX2_append_36 : decode cX2_append 36 = .ok (.aload_n 0, 1) := by decide +kernel
theorem dX2_append_37 : decode cX2_append 37 = .ok (.getfield 21, 3) := by decide +kernel
theorem dX2_append_40 : decode cX2_append 40 = .ok (.iload 7, 2) := by decide +kernel
theorem dX2_append_42 : decode cX2_append 42 = .ok (.iload 4, 2) := by decide +kernel
theorem dX2_append_44 : decode cX2_append 44 = .ok (.invokestatic 34, 3) := by decide +kernel
theorem dX2_append_47 : decode cX2_append 47 = .ok (.aload_n 0, 1) := by decide +kernel
theorem dX2_append_48 : decode cX2_append 48 = .ok (.getfield 24, 3) := by decide +kernel
theorem dX2_append_51 : decode cX2_append 51 = .ok (.iload 7, 2) := by decide +kernel
theorem dX2_append_53 : decode cX2_append 53 = .ok (.iload 5, 2) := by decide +kernel
theorem dX2_append_55 : decode cX2_append 55 = .ok (.invokestatic 34, 3) := by decide +kernel
theorem dX2_append_58 : decode cX2_append 58 = .ok (.aload_n 0, 1) := by decide +kernel
theorem dX2_append_59 : decode cX2_append 59 = .ok (.getfield 27, 3) := by decide +kernel
theorem dX2_append_62 : decode cX2_append 62 = .ok (.iload 7, 2) := by decide +kernel
theorem dX2_append_64 : decode cX2_append 64 = .ok (.iload 6, 2) := by decide +kernel
theorem dX2_append_66 : decode cX2_append 66 = .ok (.invokestatic 34, 3) := by decide +kernel
theorem dX2_append_69 : decode cX2_append 69 = .ok (.aload_n 0, 1) := by decide +kernel
theorem dX2_append_70 : decode cX2_append 70 = .ok (.dup, 1) := by decide +kernel
theorem dX2_append_71 : decode cX2_append 71 = .ok (.getfield 30, 3) := by decide +kernel
theorem dX2_append_74 : decode cX2_append 74 = .ok (.iconst 1, 1) := by decide +kernel
theorem dX2_append_75 : decode cX2_append 75 = .ok (.iadd, 1) := by decide +kernel
theorem dX2_append_76 : decode cX2_append 76 = .ok (.putfield 30, 3) := by decide +kernel
theorem dX2_append_79 : decode cX2_append 79 = .ok (.iload 7, 2) := by decide +kernel
theorem dX2_append_81 : decode cX2_append 81 = .ok (.ireturn, 1) := by decide +kernel
theorem dX2_stampFrom_0 : decode cX2_stampFrom 0 = .ok (.iload_n 0, 1) := by decide +kernel
theorem dX2_stampFrom_1 : decode cX2_stampFrom 1 = .ok (.iconst 2, 1) := by decide +kernel
theorem dX2_stampFrom_2 : decode cX2_stampFrom 2 = .ok (.imul, 1) := by decide +kernel
theorem dX2_stampFrom_3 : decode cX2_stampFrom 3 = .ok (.iload_n 1, 1) := by decide +kernel
theorem dX2_stampFrom_4 : decode cX2_stampFrom 4 = .ok (.iadd, 1) := by decide +kernel
theorem dX2_stampFrom_5 : decode cX2_stampFrom 5 = .ok (.ireturn, 1) := by decide +kernel
set_option maxRecDepth 20000 in
theorem ggX2_stampAt_X5_at : GoodIn wsX2_stampAt wsX5_at := goodIn_r _ [4] (by decide +kernel) (by decide +kernel)
set_option maxRecDepth 20000 in
theorem gX2_stampAt_X5_at_n38 : GoodIn wsX2_stampAt (wsX5_at) := ggX2_stampAt_X5_at
theorem dX2_stampAt_0 : decode cX2_stampAt 0 = .ok (.aload_n 0, 1) := by decide +kernel
theorem dX2_stampAt_1 : decode cX2_stampAt 1 = .ok (.getfield 15, 3) := by decide +kernel
theorem dX2_stampAt_4 : decode cX2_stampAt 4 = .ok (.iload_n 1, 1) := by decide +kernel
theorem dX2_stampAt_5 : decode cX2_stampAt 5 = .ok (.invokestatic 38, 3) := by decide +kernel
theorem dX2_stampAt_8 : decode cX2_stampAt 8 = .ok (.ireturn, 1) := by decide +kernel
set_option maxRecDepth 20000 in
theorem ggX2_timeAt_X5_at : GoodIn wsX2_timeAt wsX5_at := goodIn_r _ [4] (by decide +kernel) (by decide +kernel)
set_option maxRecDepth 20000 in
theorem gX2_timeAt_X5_at_n38 : GoodIn wsX2_timeAt (wsX5_at) := ggX2_timeAt_X5_at
theorem dX2_timeAt_0 : decode cX2_timeAt 0 = .ok (.aload_n 0, 1) := by decide +kernel
theorem dX2_timeAt_1 : decode cX2_timeAt 1 = .ok (.getfield 15, 3) := by decide +kernel
theorem dX2_timeAt_4 : decode cX2_timeAt 4 = .ok (.iload_n 1, 1) := by decide +kernel
theorem dX2_timeAt_5 : decode cX2_timeAt 5 = .ok (.invokestatic 38, 3) := by decide +kernel
theorem dX2_timeAt_8 : decode cX2_timeAt 8 = .ok (.iconst 2, 1) := by decide +kernel
theorem dX2_timeAt_9 : decode cX2_timeAt 9 = .ok (.idiv, 1) := by decide +kernel
theorem dX2_timeAt_10 : decode cX2_timeAt 10 = .ok (.ireturn, 1) := by decide +kernel
set_option maxRecDepth 20000 in
theorem ggX3_init_J7_fill_53178 : GoodIn wsX3_init wsJ7_fill_53178 := goodIn_r _ [11] (by decide +kernel) (by decide +kernel)
set_option maxRecDepth 20000 in
theorem gX3_init_J7_fill_53178 : GoodIn wsX3_init (va_wsS RX3 19 yJ7_fill_53178 wsJ7_fill_53178) := goodIn_app (goodIn_of _ (by decide +kernel)) ggX3_init_J7_fill_53178
theorem dX3_init_0 : decode cX3_init 0 = .ok (.aload_n 0, 1) := by decide +kernel
theorem dX3_init_1 : decode cX3_init 1 = .ok (.invokespecial 3, 3) := by decide +kernel
theorem dX3_init_4 : decode cX3_init 4 = .ok (.aload_n 0, 1) := by decide +kernel
theorem dX3_init_5 : decode cX3_init 5 = .ok (.bipush 126, 2) := by decide +kernel
theorem dX3_init_7 : decode cX3_init 7 = .ok (.newarray .int, 2) := by decide +kernel
theorem dX3_init_9 : decode cX3_init 9 = .ok (.putfield 9, 3) := by decide +kernel
theorem dX3_init_12 : decode cX3_init 12 = .ok (.aload_n 0, 1) := by decide +kernel
theorem dX3_init_13 : decode cX3_init 13 = .ok (.bipush 42, 2) := by decide +kernel
theorem dX3_init_15 : decode cX3_init 15 = .ok (.newarray .boolean, 2) := by decide +kernel
theorem dX3_init_17 : decode cX3_init 17 = .ok (.putfield 15, 3) := by decide +kernel
theorem dX3_init_20 : decode cX3_init 20 = .ok (.aload_n 0, 1) := by decide +kernel
theorem dX3_init_21 : decode cX3_init 21 = .ok (.getfield 9, 3) := by decide +kernel
theorem dX3_init_24 : decode cX3_init 24 = .ok (.iconst (-1), 1) := by decide +kernel
theorem dX3_init_25 : decode cX3_init 25 = .ok (.invokestatic 19, 3) := by decide +kernel
theorem dX3_init_28 : decode cX3_init 28 = .ok (.return_, 1) := by decide +kernel
set_option maxRecDepth 20000 in
theorem ggX3_putRight_X5_put : GoodIn wsX3_putRight wsX5_put := goodIn_r _ [4] (by decide +kernel) (by decide +kernel)
set_option maxRecDepth 20000 in
theorem gX3_putRight_X5_put_n25 : GoodIn wsX3_putRight (wsX5_put) := ggX3_putRight_X5_put
theorem dX3_putRight_0 : decode cX3_putRight 0 = .ok (.aload_n 0, 1) := by decide +kernel
theorem dX3_putRight_1 : decode cX3_putRight 1 = .ok (.getfield 9, 3) := by decide +kernel
theorem dX3_putRight_4 : decode cX3_putRight 4 = .ok (.iload_n 1, 1) := by decide +kernel
theorem dX3_putRight_5 : decode cX3_putRight 5 = .ok (.bipush 42, 2) := by decide +kernel
theorem dX3_putRight_7 : decode cX3_putRight 7 = .ok (.imul, 1) := by decide +kernel
theorem dX3_putRight_8 : decode cX3_putRight 8 = .ok (.iload_n 2, 1) := by decide +kernel
theorem dX3_putRight_9 : decode cX3_putRight 9 = .ok (.iadd, 1) := by decide +kernel
theorem dX3_putRight_10 : decode cX3_putRight 10 = .ok (.iload_n 3, 1) := by decide +kernel
theorem dX3_putRight_11 : decode cX3_putRight 11 = .ok (.invokestatic 25, 3) := by decide +kernel
theorem dX3_putRight_14 : decode cX3_putRight 14 = .ok (.return_, 1) := by decide +kernel
theorem dX3_putReferral_0 : decode cX3_putReferral 0 = .ok (.iload_n 1, 1) := by decide +kernel
theorem dX3_putReferral_1 : decode cX3_putReferral 1 = .ok (.ifCond .lt 16, 3) := by decide +kernel
theorem dX3_putReferral_4 : decode cX3_putReferral 4 = .ok (.iload_n 1, 1) := by decide +kernel
theorem dX3_putReferral_5 : decode cX3_putReferral 5 = .ok (.bipush 42, 2) := by decide +kernel
theorem dX3_putReferral_7 : decode cX3_putReferral 7 = .ok (.if_icmp .ge 10, 3) := by decide +kernel
theorem dX3_putReferral_10 : decode cX3_putReferral 10 = .ok (.aload_n 0, 1) := by decide +kernel
theorem dX3_putReferral_11 : decode cX3_putReferral 11 = .ok (.getfield 15, 3) := by decide +kernel
theorem dX3_putReferral_14 : decode cX3_putReferral 14 = .ok (.iload_n 1, 1) := by decide +kernel
theorem dX3_putReferral_15 : decode cX3_putReferral 15 = .ok (.iload_n 2, 1) := by decide +kernel
theorem dX3_putReferral_16 : decode cX3_putReferral 16 = .ok (.bastore, 1) := by decide +kernel
theorem dX3_putReferral_17 : decode cX3_putReferral 17 = .ok (.return_, 1) := by decide +kernel
theorem dX3_isReferral_0 : decode cX3_isReferral 0 = .ok (.iload_n 1, 1) := by decide +kernel
theorem dX3_isReferral_1 : decode cX3_isReferral 1 = .ok (.ifCond .lt 22, 3) := by decide +kernel
theorem dX3_isReferral_4 : decode cX3_isReferral 4 = .ok (.iload_n 1, 1) := by decide +kernel
theorem dX3_isReferral_5 : decode cX3_isReferral 5 = .ok (.bipush 42, 2) := by decide +kernel
theorem dX3_isReferral_7 : decode cX3_isReferral 7 = .ok (.if_icmp .ge 16, 3) := by decide +kernel
theorem dX3_isReferral_10 : decode cX3_isReferral 10 = .ok (.aload_n 0, 1) := by decide +kernel
theorem dX3_isReferral_11 : decode cX3_isReferral 11 = .ok (.getfield 15, 3) := by decide +kernel
theorem dX3_isReferral_14 : decode cX3_isReferral 14 = .ok (.iload_n 1, 1) := by decide +kernel
theorem dX3_isReferral_15 : decode cX3_isReferral 15 = .ok (.baload, 1) := by decide +kernel
theorem dX3_isReferral_16 : decode cX3_isReferral 16 = .ok (.ifCond .eq 7, 3) := by decide +kernel
theorem dX3_isReferral_19 : decode cX3_isReferral 19 = .ok (.iconst 1, 1) := by decide +kernel
theorem dX3_isReferral_20 : decode cX3_isReferral 20 = .ok (.goto 4, 3) := by decide +kernel
theorem dX3_isReferral_23 : decode cX3_isReferral 23 = .ok (.iconst 0, 1) := by decide +kernel
theorem dX3_isReferral_24 : decode cX3_isReferral 24 = .ok (.ireturn, 1) := by decide +kernel
set_option maxRecDepth 20000 in
theorem ggX3_rightThatCounts_X5_at : GoodIn wsX3_rightThatCounts wsX5_at := goodIn_r _ [4] (by decide +kernel) (by decide +kernel)
set_option maxRecDepth 20000 in
theorem gX3_rightThatCounts_X5_at_n29 : GoodIn wsX3_rightThatCounts (wsX5_at) := ggX3_rightThatCounts_X5_at
set_option maxRecDepth 20000 in
theorem ggX3_rightThatCounts_X4_parentAt : GoodIn wsX3_rightThatCounts wsX4_parentAt := goodIn_r _ [9, 10, 2, 3, 4, 13, 14, 15, 16, 17, 18, 19, 20, 21, 22, 23] (by decide +kernel) (by decide +kernel)
set_option maxRecDepth 20000 in
theorem gX3_rightThatCounts_X4_parentAt : GoodIn wsX3_rightThatCounts (wsV RX3 33 RX4 yX4_parentAt wsX4_parentAt) := goodIn_app (goodIn_of _ (by decide +kernel)) ggX3_rightThatCounts_X4_parentAt
theorem dX3_rightThatCounts_0 : decode cX3_rightThatCounts 0 = .ok (.iload_n 3, 1) := by decide +kernel
theorem dX3_rightThatCounts_1 : decode cX3_rightThatCounts 1 = .ok (.istore 4, 2) := by decide +kernel
theorem dX3_rightThatCounts_3 : decode cX3_rightThatCounts 3 = .ok (.iconst 0, 1) := by decide +kernel
theorem dX3_rightThatCounts_4 : decode cX3_rightThatCounts 4 = .ok (.istore 5, 2) := by decide +kernel
theorem dX3_rightThatCounts_6 : decode cX3_rightThatCounts 6 = .ok (.iload 5, 2) := by decide +kernel
theorem dX3_rightThatCounts_8 : decode cX3_rightThatCounts 8 = .ok (.bipush 42, 2) := by decide +kernel
theorem dX3_rightThatCounts_10 : decode cX3_rightThatCounts 10 = .ok (.if_icmp .ge 48, 3) := by decide +kernel
theorem dX3_rightThatCounts_13 : decode cX3_rightThatCounts 13 = .ok (.iload 4, 2) := by decide +kernel
theorem dX3_rightThatCounts_15 : decode cX3_rightThatCounts 15 = .ok (.iconst (-1), 1) := by decide +kernel
theorem dX3_rightThatCounts_16 : decode cX3_rightThatCounts 16 = .ok (.if_icmp .eq 42, 3) := by decide +kernel
theorem dX3_rightThatCounts_19 : decode cX3_rightThatCounts 19 = .ok (.aload_n 0, 1) := by decide +kernel
theorem dX3_rightThatCounts_20 : decode cX3_rightThatCounts 20 = .ok (.getfield 9, 3) := by decide +kernel
theorem dX3_rightThatCounts_23 : decode cX3_rightThatCounts 23 = .ok (.iload_n 1, 1) := by decide +kernel
theorem dX3_rightThatCounts_24 : decode cX3_rightThatCounts 24 = .ok (.bipush 42, 2) := by decide +kernel
theorem dX3_rightThatCounts_26 : decode cX3_rightThatCounts 26 = .ok (.imul, 1) := by decide +kernel
theorem dX3_rightThatCounts_27 : decode cX3_rightThatCounts 27 = .ok (.iload 4, 2) := by decide +kernel
theorem dX3_rightThatCounts_29 : decode cX3_rightThatCounts 29 = .ok (.iadd, 1) := by decide +kernel
theorem dX3_rightThatCounts_30 : decode cX3_rightThatCounts 30 = .ok (.invokestatic 29, 3) := by decide +kernel
theorem dX3_rightThatCounts_33 : decode cX3_rightThatCounts 33 = .ok (.istore 6, 2) := by decide +kernel
theorem dX3_rightThatCounts_35 : decode cX3_rightThatCounts 35 = .ok (.iload 6, 2) := by decide +kernel
theorem dX3_rightThatCounts_37 : decode cX3_rightThatCounts 37 = .ok (.iconst (-1), 1) := by decide +kernel
theorem dX3_rightThatCounts_38 : decode cX3_rightThatCounts 38 = .ok (.if_icmp .eq 6, 3) := by decide +kernel
theorem dX3_rightThatCounts_41 : decode cX3_rightThatCounts 41 = .ok (.iload 6, 2) := by decide +kernel
theorem dX3_rightThatCounts_43 : decode cX3_rightThatCounts 43 = .ok (.ireturn, 1) := by decide +kernel
theorem dX3_rightThatCounts_44 : decode cX3_rightThatCounts 44 = .ok (.aload_n 2, 1) := by decide +kernel
theorem dX3_rightThatCounts_45 : decode cX3_rightThatCounts 45 = .ok (.iload 4, 2) := by decide +kernel
theorem dX3_rightThatCounts_47 : decode cX3_rightThatCounts 47 = .ok (.invokevirtual 33, 3) := by decide +kernel
theorem dX3_rightThatCounts_50 : decode cX3_rightThatCounts 50 = .ok (.istore 4, 2) := by decide +kernel
theorem dX3_rightThatCounts_52 : decode cX3_rightThatCounts 52 = .ok (.iinc 5 1, 3) := by decide +kernel
theorem dX3_rightThatCounts_55 : decode cX3_rightThatCounts 55 = .ok (.goto (-49), 3) := by decide +kernel
theorem dX3_rightThatCounts_58 : decode cX3_rightThatCounts 58 = .ok (.iconst 0, 1) := by decide +kernel
theorem dX3_rightThatCounts_59 : decode cX3_rightThatCounts 59 = .ok (.ireturn, 1) := by decide +kernel
set_option maxRecDepth 20000 in
theorem ggX4_init_X4_clear : GoodIn wsX4_init wsX4_clear := goodIn_r _ [19, 7, 8, 9, 10, 11, 20, 21, 22, 23, 24, 25, 26, 27, 28, 29, 30, 31, 32, 33, 34, 35] (by decide +kernel) (by decide +kernel)
set_option maxRecDepth 20000 in
theorem gX4_init_X4_clear : GoodIn wsX4_init (wsV RX4 43 RX4 yX4_clear wsX4_clear) := goodIn_app (goodIn_of _ (by decide +kernel)) ggX4_init_X4_clear
theorem dX4_init_0 : decode cX4_init 0 = .ok (.aload_n 0, 1) := by decide +kernel
theorem dX4_init_1 : decode cX4_init 1 = .ok (.invokespecial 3, 3) := by decide +kernel
theorem dX4_init_4 : decode cX4_init 4 = .ok (.aload_n 0, 1) := by decide +kernel
theorem dX4_init_5 : decode cX4_init 5 = .ok (.bipush 40, 2) := by decide +kernel
theorem dX4_init_7 : decode cX4_init 7 = .ok (.newarray .int, 2) := by decide +kernel
theorem dX4_init_9 : decode cX4_init 9 = .ok (.putfield 9, 3) := by decide +kernel
theorem dX4_init_12 : decode cX4_init 12 = .ok (.aload_n 0, 1) := by decide +kernel
theorem dX4_init_13 : decode cX4_init 13 = .ok (.bipush 42, 2) := by decide +kernel
theorem dX4_init_15 : decode cX4_init 15 = .ok (.newarray .boolean, 2) := by decide +kernel
theorem dX4_init_17 : decode cX4_init 17 = .ok (.putfield 15, 3) := by decide +kernel
theorem dX4_init_20 : decode cX4_init 20 = .ok (.aload_n 0, 1) := by decide +kernel
theorem dX4_init_21 : decode cX4_init 21 = .ok (.bipush 42, 2) := by decide +kernel
theorem dX4_init_23 : decode cX4_init 23 = .ok (.newarray .int, 2) := by decide +kernel
theorem dX4_init_25 : decode cX4_init 25 = .ok (.putfield 19, 3) := by decide +kernel
theorem dX4_init_28 : decode cX4_init 28 = .ok (.aload_n 0, 1) := by decide +kernel
theorem dX4_init_29 : decode cX4_init 29 = .ok (.bipush 42, 2) := by decide +kernel
theorem dX4_init_31 : decode cX4_init 31 = .ok (.newarray .int, 2) := by decide +kernel
theorem dX4_init_33 : decode cX4_init 33 = .ok (.putfield 22, 3) := by decide +kernel
theorem dX4_init_36 : decode cX4_init 36 = .ok (.aload_n 0, 1) := by decide +kernel
theorem dX4_init_37 : decode cX4_init 37 = .ok (.bipush 42, 2) := by decide +kernel
theorem dX4_init_39 : decode cX4_init 39 = .ok (.newarray .int, 2) := by decide +kernel
theorem dX4_init_41 : decode cX4_init 41 = .ok (.putfield 25, 3) := by decide +kernel
theorem dX4_init_44 : decode cX4_init 44 = .ok (.aload_n 0, 1) := by decide +kernel
theorem dX4_init_45 : decode cX4_init 45 = .ok (.sipush 168, 3) := by decide +kernel
theorem dX4_init_48 : decode cX4_init 48 = .ok (.newarray .int, 2) := by decide +kernel
theorem dX4_init_50 : decode cX4_init 50 = .ok (.putfield 28, 3) := by decide +kernel
theorem dX4_init_53 : decode cX4_init 53 = .ok (.aload_n 0, 1) := by decide +kernel
theorem dX4_init_54 : decode cX4_init 54 = .ok (.iload_n 1, 1) := by decide +kernel
theorem dX4_init_55 : decode cX4_init 55 = .ok (.putfield 31, 3) := by decide +kernel
theorem dX4_init_58 : decode cX4_init 58 = .ok (.aload_n 0, 1) := by decide +kernel
theorem dX4_init_59 : decode cX4_init 59 = .ok (.aload_n 2, 1) := by decide +kernel
theorem dX4_init_60 : decode cX4_init 60 = .ok (.putfield 35, 3) := by decide +kernel
theorem dX4_init_63 : decode cX4_init 63 = .ok (.aload_n 0, 1) := by decide +kernel
theorem dX4_init_64 : decode cX4_init 64 = .ok (.aload_n 3, 1) := by decide +kernel
theorem dX4_init_65 : decode cX4_init 65 = .ok (.putfield 39, 3) := by decide +kernel
theorem dX4_init_68 : decode cX4_init 68 = .ok (.aload_n 0, 1) := by decide +kernel
theorem dX4_init_69 : decode cX4_init 69 = .ok (.invokevirtual 43, 3) := by decide +kernel
theorem dX4_init_72 : decode cX4_init 72 = .ok (.return_, 1) := by decide +kernel
set_option maxRecDepth 20000 in
theorem ggX4_clear_J7_fill_53178 : GoodIn wsX4_clear wsJ7_fill_53178 := goodIn_r _ [10] (by decide +kernel) (by decide +kernel)
set_option maxRecDepth 20000 in
theorem gX4_clear_J7_fill_53178 : GoodIn wsX4_clear (va_wsS RX4 46 yJ7_fill_53178 wsJ7_fill_53178) := goodIn_app (goodIn_of _ (by decide +kernel)) ggX4_clear_J7_fill_53178
theorem dX4_clear_0 : decode cX4_clear 0 = .ok (.iconst 0, 1) := by decide +kernel
theorem dX4_clear_1 : decode cX4_clear 1 = .ok (.istore_n 1, 1) := by decide +kernel
theorem dX4_clear_2 : decode cX4_clear 2 = .ok (.iload_n 1, 1) := by decide +kernel
theorem dX4_clear_3 : decode cX4_clear 3 = .ok (.bipush 42, 2) := by decide +kernel
theorem dX4_clear_5 : decode cX4_clear 5 = .ok (.if_icmp .ge 25, 3) := by decide +kernel
theorem dX4_clear_8 : decode cX4_clear 8 = .ok (.aload_n 0, 1) := by decide +kernel
theorem dX4_clear_9 : decode cX4_clear 9 = .ok (.getfield 15, 3) := by decide +kernel
theorem dX4_clear_12 : decode cX4_clear 12 = .ok (.iload_n 1, 1) := by decide +kernel
theorem dX4_clear_13 : decode cX4_clear 13 = .ok (.iload_n 1, 1) := by decide +kernel
theorem dX4_clear_14 : decode cX4_clear 14 = .ok (.iconst 2, 1) := by decide +kernel
theorem dX4_clear_15 : decode cX4_clear 15 = .ok (.if_icmp .ge 7, 3) := by decide +kernel
theorem dX4_clear_18 : decode cX4_clear 18 = .ok (.iconst 1, 1) := by decide +kernel
theorem dX4_clear_19 : decode cX4_clear 19 = .ok (.goto 4, 3) := by decide +kernel
theorem dX4_clear_22 : decode cX4_clear 22 = .ok (.iconst 0, 1) := by decide +kernel
theorem dX4_clear_23 : decode cX4_clear 23 = .ok (.bastore, 1) := by decide +kernel
theorem dX4_clear_24 : decode cX4_clear 24 = .ok (.iinc 1 1, 3) := by decide +kernel
theorem dX4_clear_27 : decode cX4_clear 27 = .ok (.goto (-25), 3) := by decide +kernel
theorem dX4_clear_30 : decode cX4_clear 30 = .ok (.aload_n 0, 1) := by decide +kernel
theorem dX4_clear_31 : decode cX4_clear 31 = .ok (.getfield 19, 3) := by decide +kernel
theorem dX4_clear_34 : decode cX4_clear 34 = .ok (.iconst (-1), 1) := by decide +kernel
theorem dX4_clear_35 : decode cX4_clear 35 = .ok (.invokestatic 46, 3) := by decide +kernel
theorem dX4_clear_38 : decode cX4_clear 38 = .ok (.aload_n 0, 1) := by decide +kernel
theorem dX4_clear_39 : decode cX4_clear 39 = .ok (.getfield 22, 3) := by decide +kernel
theorem dX4_clear_42 : decode cX4_clear 42 = .ok (.iconst (-1), 1) := by decide +kernel
theorem dX4_clear_43 : decode cX4_clear 43 = .ok (.invokestatic 46, 3) := by decide +kernel
theorem dX4_clear_46 : decode cX4_clear 46 = .ok (.aload_n 0, 1) := by decide +kernel
theorem dX4_clear_47 : decode cX4_clear 47 = .ok (.getfield 25, 3) := by decide +kernel
theorem dX4_clear_50 : decode cX4_clear 50 = .ok (.iconst 0, 1) := by decide +kernel
theorem dX4_clear_51 : decode cX4_clear 51 = .ok (.invokestatic 46, 3) := by decide +kernel
theorem dX4_clear_54 : decode cX4_clear 54 = .ok (.aload_n 0, 1) := by decide +kernel
theorem dX4_clear_55 : decode cX4_clear 55 = .ok (.getfield 28, 3) := by decide +kernel
theorem dX4_clear_58 : decode cX4_clear 58 = .ok (.iconst (-1), 1) := by decide +kernel
theorem dX4_clear_59 : decode cX4_clear 59 = .ok (.invokestatic 46, 3) := by decide +kernel
theorem dX4_clear_62 : decode cX4_clear 62 = .ok (.aload_n 0, 1) := by decide +kernel
theorem dX4_clear_63 : decode cX4_clear 63 = .ok (.getfield 19, 3) := by decide +kernel
theorem dX4_clear_66 : decode cX4_clear 66 = .ok (.iconst 1, 1) := by decide +kernel
theorem dX4_clear_67 : decode cX4_clear 67 = .ok (.iconst 0, 1) := by decide +kernel
theorem dX4_clear_68 : decode cX4_clear 68 = .ok (.iastore, 1) := by decide +kernel
theorem dX4_clear_69 : decode cX4_clear 69 = .ok (.aload_n 0, 1) := by decide +kernel
theorem dX4_clear_70 : decode cX4_clear 70 = .ok (.getfield 22, 3) := by decide +kernel
theorem dX4_clear_73 : decode cX4_clear 73 = .ok (.iconst 1, 1) := by decide +kernel
theorem dX4_clear_74 : decode cX4_clear 74 = .ok (.bipush 99, 2) := by decide +kernel
theorem dX4_clear_76 : decode cX4_clear 76 = .ok (.iastore, 1) := by decide +kernel
theorem dX4_clear_77 : decode cX4_clear 77 = .ok (.aload_n 0, 1) := by decide +kernel
theorem dX4_clear_78 : decode cX4_clear 78 = .ok (.iconst 2, 1) := by decide +kernel
theorem dX4_clear_79 : decode cX4_clear 79 = .ok (.putfield 52, 3) := by decide +kernel
theorem dX4_clear_82 : decode cX4_clear 82 = .ok (.return_, 1) := by decide +kernel
theorem dX4_knows_0 : decode cX4_knows 0 = .ok (.iconst 0, 1) := by decide +kernel
theorem dX4_knows_1 : decode cX4_knows 1 = .ok (.istore_n 2, 1) := by decide +kernel
theorem dX4_knows_2 : decode cX4_knows 2 = .ok (.iload_n 2, 1) := by decide +kernel
theorem dX4_knows_3 : decode cX4_knows 3 = .ok (.aload_n 0, 1) := by decide +kernel
theorem dX4_knows_4 : decode cX4_knows 4 = .ok (.getfield 55, 3) := by decide +kernel
theorem dX4_knows_7 : decode cX4_knows 7 = .ok (.if_icmp .ge 27, 3) := by decide +kernel
theorem dX4_knows_10 : decode cX4_knows 10 = .ok (.iload_n 2, 1) := by decide +kernel
theorem dX4_knows_11 : decode cX4_knows 11 = .ok (.bipush 40, 2) := by decide +kernel
theorem dX4_knows_13 : decode cX4_knows 13 = .ok (.if_icmp .ge 21, 3) := by decide +kernel
theorem dX4_knows_16 : decode cX4_knows 16 = .ok (.aload_n 0, 1) := by decide +kernel
theorem dX4_knows_17 : decode cX4_knows 17 = .ok (.getfield 9, 3) := by decide +kernel
theorem dX4_knows_20 : decode cX4_knows 20 = .ok (.iload_n 2, 1) := by decide +kernel
theorem dX4_knows_21 : decode cX4_knows 21 = .ok (.iaload, 1) := by decide +kernel
theorem dX4_knows_22 : decode cX4_knows 22 = .ok (.iload_n 1, 1) := by decide +kernel
theorem dX4_knows_23 : decode cX4_knows 23 = .ok (.if_icmp .ne 5, 3) := by decide +kernel
theorem dX4_knows_26 : decode cX4_knows 26 = .ok (.iconst 1, 1) := by decide +kernel
theorem dX4_knows_27 : decode cX4_knows 27 = .ok (.ireturn, 1) := by decide +kernel
theorem dX4_knows_28 : decode cX4_knows 28 = .ok (.iinc 2 1, 3) := by decide +kernel
theorem dX4_knows_31 : decode cX4_knows 31 = .ok (.goto (-29), 3) := by decide +kernel
theorem dX4_knows_34 : decode cX4_knows 34 = .ok (.iconst 0, 1) := by decide +kernel
theorem dX4_knows_35 : decode cX4_knows 35 = .ok (.ireturn, 1) := by decide +kernel
set_option maxRecDepth 20000 in
theorem ggX4_stampOfNext_X5_at : GoodIn wsX4_stampOfNext wsX5_at := goodIn_r _ [7] (by decide +kernel) (by decide +kernel)
set_option maxRecDepth 20000 in
theorem gX4_stampOfNext_X5_at_n58 : GoodIn wsX4_stampOfNext (wsX5_at) := ggX4_stampOfNext_X5_at
set_option maxRecDepth 20000 in
theorem ggX4_stampOfNext_X2_timeAt : GoodIn wsX4_stampOfNext wsX2_timeAt := goodIn_r _ [12, 13, 5, 6, 7, 28, 29, 30, 31, 32, 33, 34] (by decide +kernel) (by decide +kernel)
set_option maxRecDepth 20000 in
theorem gX4_stampOfNext_X2_timeAt : GoodIn wsX4_stampOfNext (wsV RX4 62 RX2 yX2_timeAt wsX2_timeAt) := goodIn_app (goodIn_of _ (by decide +kernel)) ggX4_stampOfNext_X2_timeAt
set_option maxRecDepth 20000 in
theorem ggX4_stampOfNext_X2_stampFrom : GoodIn wsX4_stampOfNext wsX2_stampFrom := goodIn_r _ [16] (by decide +kernel) (by decide +kernel)
set_option maxRecDepth 20000 in
theorem gX4_stampOfNext_X2_stampFrom : GoodIn wsX4_stampOfNext (va_wsS RX4 68 yX2_stampFrom wsX2_stampFrom) := goodIn_app (goodIn_of _ (by decide +kernel)) ggX4_stampOfNext_X2_stampFrom
theorem dX4_stampOfNext_0 : decode cX4_stampOfNext 0 = .ok (.aload_n 0, 1) := by decide +kernel
theorem dX4_stampOfNext_1 : decode cX4_stampOfNext 1 = .ok (.getfield 55, 3) := by decide +kernel
theorem dX4_stampOfNext_4 : decode cX4_stampOfNext 4 = .ok (.ifCond .ne 7, 3) := by decide +kernel
theorem dX4_stampOfNext_7 : decode cX4_stampOfNext 7 = .ok (.iconst 0, 1) := by decide +kernel
theorem dX4_stampOfNext_8 : decode cX4_stampOfNext 8 = .ok (.goto 23, 3) := by decide +kernel
theorem dX4_stampOfNext_11 : decode cX4_stampOfNext 11 = .ok (.aload_n 0, 1) := by decide +kernel
theorem dX4_stampOfNext_12 : decode cX4_stampOfNext 12 = .ok (.getfield 35, 3) := by decide +kernel
theorem dX4_stampOfNext_15 : decode cX4_stampOfNext 15 = .ok (.aload_n 0, 1) := by decide +kernel
theorem dX4_stampOfNext_16 : decode cX4_stampOfNext 16 = .ok (.getfield 9, 3) := by decide +kernel
theorem dX4_stampOfNext_19 : decode cX4_stampOfNext 19 = .ok (.aload_n 0, 1) := by decide +kernel
theorem dX4_stampOfNext_20 : decode cX4_stampOfNext 20 = .ok (.getfield 55, 3) := by decide +kernel
theorem dX4_stampOfNext_23 : decode cX4_stampOfNext 23 = .ok (.iconst 1, 1) := by decide +kernel
theorem dX4_stampOfNext_24 : decode cX4_stampOfNext 24 = .ok (.isub, 1) := by decide +kernel
theorem dX4_stampOfNext_25 : decode cX4_stampOfNext 25 = .ok (.invokestatic 58, 3) := by decide +kernel
theorem dX4_stampOfNext_28 : decode cX4_stampOfNext 28 = .ok (.invokevirtual 62, 3) := by decide +kernel
theorem dX4_stampOfNext_31 : decode cX4_stampOfNext 31 = .ok (.istore_n 1, 1) := by decide +kernel
theorem dX4_stampOfNext_32 : decode cX4_stampOfNext 32 = .ok (.iload_n 1, 1) := by decide +kernel
theorem dX4_stampOfNext_33 : decode cX4_stampOfNext 33 = .ok (.iconst 1, 1) := by decide +kernel
theorem dX4_stampOfNext_34 : decode cX4_stampOfNext 34 = .ok (.iadd, 1) := by decide +kernel
theorem dX4_stampOfNext_35 : decode cX4_stampOfNext 35 = .ok (.aload_n 0, 1) := by decide +kernel
theorem dX4_stampOfNext_36 : decode cX4_stampOfNext 36 = .ok (.getfield 31, 3) := by decide +kernel
theorem dX4_stampOfNext_39 : decode cX4_stampOfNext 39 = .ok (.invokestatic 68, 3) := by decide +kernel
theorem dX4_stampOfNext_42 : decode cX4_stampOfNext 42 = .ok (.ireturn, 1) := by decide +kernel
set_option maxRecDepth 20000 in
theorem ggX4_learn_X4_putInOrder : GoodIn wsX4_learn wsX4_putInOrder := goodIn_r _ [7, 1, 8, 2, 9, 10, 11, 12, 13, 14, 15, 16, 17, 18, 19, 91, 92, 93, 94, 95, 96, 97, 98, 99, 100, 101, 102, 103, 104, 105, 106, 107, 108] (by decide +kernel) (by decide +kernel)
set_option maxRecDepth 20000 in
theorem gX4_learn_X4_putInOrder : GoodIn wsX4_learn (wsV RX4 72 RX4 yX4_putInOrder wsX4_putInOrder) := goodIn_app (goodIn_of _ (by decide +kernel)) ggX4_learn_X4_putInOrder
set_option maxRecDepth 20000 in
theorem ggX4_learn_X4_clear : GoodIn wsX4_learn wsX4_clear := goodIn_r _ [23, 24, 25, 26, 27, 28, 29, 30, 31, 32, 33, 91, 92, 93, 94, 95, 96, 97, 98, 99, 100, 101] (by decide +kernel) (by decide +kernel)
set_option maxRecDepth 20000 in
theorem gX4_learn_X4_clear : GoodIn wsX4_learn (wsV RX4 43 RX4 yX4_clear wsX4_clear) := goodIn_app (goodIn_of _ (by decide +kernel)) ggX4_learn_X4_clear
set_option maxRecDepth 20000 in
theorem ggX4_learn_X4_perform : GoodIn wsX4_learn wsX4_perform := goodIn_r _ [37, 8, 9, 10, 11, 38, 39, 40, 6, 41, 24, 26, 27, 29, 42, 43, 44, 45, 25, 46, 47, 48, 49, 50, 51, 52, 53, 54, 55, 56, 57, 58, 59, 60, 28, 61, 62, 63, 64, 65, 66, 67, 68, 69, 70, 71, 72, 73, 74, 18, 19, 75, 76, 77, 78, 79, 80, 81, 82, 83, 84, 85, 86, 87, 88, 89, 90, 91, 92, 93, 94, 95, 96, 97, 98, 99, 100, 101, 102, 103, 104, 105, 106, 107, 108, 109, 110] (by decide +kernel) (by decide +kernel)
set_option maxRecDepth 20000 in
theorem gX4_learn_X4_perform : GoodIn wsX4_learn (wsV RX4 75 RX4 yX4_perform wsX4_perform) := goodIn_app (goodIn_of _ (by decide +kernel)) ggX4_learn_X4_perform
theorem dX4_learn_0 : decode cX4_learn 0 = .ok (.aload_n 0, 1) := by decide +kernel
theorem dX4_learn_1 : decode cX4_learn 1 = .ok (.getfield 55, 3) := by decide +kernel
theorem dX4_learn_4 : decode cX4_learn 4 = .ok (.bipush 40, 2) := by decide +kernel
theorem dX4_learn_6 : decode cX4_learn 6 = .ok (.if_icmp .lt 4, 3) := by decide +kernel
theorem dX4_learn_9 : decode cX4_learn 9 = .ok (.return_, 1) := by decide +kernel
theorem dX4_learn_10 : decode cX4_learn 10 = .ok (.aload_n 0, 1) := by decide +kernel
theorem dX4_learn_11 : decode cX4_learn 11 = .ok (.iload_n 1, 1) := by decide +kernel
theorem dX4_learn_12 : decode cX4_learn 12 = .ok (.invokevirtual 72, 3) := by decide +kernel
theorem dX4_learn_15 : decode cX4_learn 15 = .ok (.istore_n 2, 1) := by decide +kernel
theorem dX4_learn_16 : decode cX4_learn 16 = .ok (.iload_n 2, 1) := by decide +kernel
theorem dX4_learn_17 : decode cX4_learn 17 = .ok (.aload_n 0, 1) := by decide +kernel
theorem dX4_learn_18 : decode cX4_learn 18 = .ok (.getfield 55, 3) := by decide +kernel
theorem dX4_learn_21 : decode cX4_learn 21 = .ok (.iconst 1, 1) := by decide +kernel
theorem dX4_learn_22 : decode cX4_learn 22 = .ok (.isub, 1) := by decide +kernel
theorem dX4_learn_23 : decode cX4_learn 23 = .ok (.if_icmp .ge 9, 3) := by decide +kernel
theorem dX4_learn_26 : decode cX4_learn 26 = .ok (.aload_n 0, 1) := by decide +kernel
theorem dX4_learn_27 : decode cX4_learn 27 = .ok (.invokevirtual 43, 3) := by decide +kernel
theorem dX4_learn_30 : decode cX4_learn 30 = .ok (.iconst 0, 1) := by decide +kernel
theorem dX4_learn_31 : decode cX4_learn 31 = .ok (.istore_n 2, 1) := by decide +kernel
theorem dX4_learn_32 : decode cX4_learn 32 = .ok (.iload_n 2, 1) := by decide +kernel
theorem dX4_learn_33 : decode cX4_learn 33 = .ok (.aload_n 0, 1) := by decide +kernel
theorem dX4_learn_34 : decode cX4_learn 34 = .ok (.getfield 55, 3) := by decide +kernel
theorem dX4_learn_37 : decode cX4_learn 37 = .ok (.if_icmp .ge 25, 3) := by decide +kernel
theorem dX4_learn_40 : decode cX4_learn 40 = .ok (.iload_n 2, 1) := by decide +kernel
theorem dX4_learn_41 : decode cX4_learn 41 = .ok (.bipush 40, 2) := by decide +kernel
theorem dX4_learn_43 : decode cX4_learn 43 = .ok (.if_icmp .ge 19, 3) := by decide +kernel
theorem dX4_learn_46 : decode cX4_learn 46 = .ok (.aload_n 0, 1) := by decide +kernel
theorem dX4_learn_47 : decode cX4_learn 47 = .ok (.aload_n 0, 1) := by decide +kernel
theorem dX4_learn_48 : decode cX4_learn 48 = .ok (.getfield 9, 3) := by decide +kernel
theorem dX4_learn_51 : decode cX4_learn 51 = .ok (.iload_n 2, 1) := by decide +kernel
theorem dX4_learn_52 : decode cX4_learn 52 = .ok (.iaload, 1) := by decide +kernel
theorem dX4_learn_53 : decode cX4_learn 53 = .ok (.invokevirtual 75, 3) := by decide +kernel
theorem dX4_learn_56 : decode cX4_learn 56 = .ok (.iinc 2 1, 3) := by decide +kernel
theorem dX4_learn_59 : decode cX4_learn 59 = .ok (.goto (-27), 3) := by decide +kernel
theorem dX4_learn_62 : decode cX4_learn 62 = .ok (.return_, 1) := by decide +kernel
set_option maxRecDepth 20000 in
theorem ggX4_putInOrder_X5_at : GoodIn wsX4_putInOrder wsX5_at := goodIn_r _ [6] (by decide +kernel) (by decide +kernel)
set_option maxRecDepth 20000 in
theorem gX4_putInOrder_X5_at_n58 : GoodIn wsX4_putInOrder (wsX5_at) := ggX4_putInOrder_X5_at
set_option maxRecDepth 20000 in
theorem ggX4_putInOrder_X2_stampAt : GoodIn wsX4_putInOrder wsX2_stampAt := goodIn_r _ [11, 12, 4, 5, 6, 26, 27, 28, 29, 30, 31, 32] (by decide +kernel) (by decide +kernel)
set_option maxRecDepth 20000 in
theorem gX4_putInOrder_X2_stampAt : GoodIn wsX4_putInOrder (wsV RX4 79 RX2 yX2_stampAt wsX2_stampAt) := goodIn_app (goodIn_of _ (by decide +kernel)) ggX4_putInOrder_X2_stampAt
set_option maxRecDepth 20000 in
theorem ggX4_putInOrder_X5_put : GoodIn wsX4_putInOrder wsX5_put := goodIn_r _ [14] (by decide +kernel) (by decide +kernel)
set_option maxRecDepth 20000 in
theorem gX4_putInOrder_X5_put_n82 : GoodIn wsX4_putInOrder (wsX5_put) := ggX4_putInOrder_X5_put
theorem dX4_putInOrder_0 : decode cX4_putInOrder 0 = .ok (.aload_n 0, 1) := by decide +kernel
theorem dX4_putInOrder_1 : decode cX4_putInOrder 1 = .ok (.getfield 55, 3) := by decide +kernel
theorem dX4_putInOrder_4 : decode cX4_putInOrder 4 = .ok (.istore_n 2, 1) := by decide +kernel
theorem dX4_putInOrder_5 : decode cX4_putInOrder 5 = .ok (.iload_n 2, 1) := by decide +kernel
theorem dX4_putInOrder_6 : decode cX4_putInOrder 6 = .ok (.ifCond .le 55, 3) := by decide +kernel
theorem dX4_putInOrder_9 : decode cX4_putInOrder 9 = .ok (.aload_n 0, 1) := by decide +kernel
theorem dX4_putInOrder_10 : decode cX4_putInOrder 10 = .ok (.getfield 35, 3) := by decide +kernel
theorem dX4_putInOrder_13 : decode cX4_putInOrder 13 = .ok (.aload_n 0, 1) := by decide +kernel
theorem dX4_putInOrder_14 : decode cX4_putInOrder 14 = .ok (.getfield 9, 3) := by decide +kernel
theorem dX4_putInOrder_17 : decode cX4_putInOrder 17 = .ok (.iload_n 2, 1) := by decide +kernel
theorem dX4_putInOrder_18 : decode cX4_putInOrder 18 = .ok (.iconst 1, 1) := by decide +kernel
theorem dX4_putInOrder_19 : decode cX4_putInOrder 19 = .ok (.isub, 1) := by decide +kernel
theorem dX4_putInOrder_20 : decode cX4_putInOrder 20 = .ok (.invokestatic 58, 3) := by decide +kernel
theorem dX4_putInOrder_23 : decode cX4_putInOrder 23 = .ok (.invokevirtual 79, 3) := by decide +kernel
theorem dX4_putInOrder_26 : decode cX4_putInOrder 26 = .ok (.aload_n 0, 1) := by decide +kernel
theorem dX4_putInOrder_27 : decode cX4_putInOrder 27 = .ok (.getfield 35, 3) := by decide +kernel
theorem dX4_putInOrder_30 : decode cX4_putInOrder 30 = .ok (.iload_n 1, 1) := by decide +kernel
theorem dX4_putInOrder_31 : decode cX4_putInOrder 31 = .ok (.invokevirtual 79, 3) := by decide +kernel
theorem dX4_putInOrder_34 : decode cX4_putInOrder 34 = .ok (.if_icmp .le 27, 3) := by decide +kernel
theorem dX4_putInOrder_37 : decode cX4_putInOrder 37 = .ok (.aload_n 0, 1) := by decide +kernel
theorem dX4_putInOrder_38 : decode cX4_putInOrder 38 = .ok (.getfield 9, 3) := by decide +kernel
theorem dX4_putInOrder_41 : decode cX4_putInOrder 41 = .ok (.iload_n 2, 1) := by decide +kernel
theorem dX4_putInOrder_42 : decode cX4_putInOrder 42 = .ok (.aload_n 0, 1) := by decide +kernel
theorem dX4_putInOrder_43 : decode cX4_putInOrder 43 = .ok (.getfield 9, 3) := by decide +kernel
theorem dX4_putInOrder_46 : decode cX4_putInOrder 46 = .ok (.iload_n 2, 1) := by decide +kernel
theorem dX4_putInOrder_47 : decode cX4_putInOrder 47 = .ok (.iconst 1, 1) := by decide +kernel
theorem dX4_putInOrder_48 : decode cX4_putInOrder 48 = .ok (.isub, 1) := by decide +kernel
theorem dX4_putInOrder_49 : decode cX4_putInOrder 49 = .ok (.invokestatic 58, 3) := by decide +kernel
theorem dX4_putInOrder_52 : decode cX4_putInOrder 52 = .ok (.invokestatic 82, 3) := by decide +kernel
theorem dX4_putInOrder_55 : decode cX4_putInOrder 55 = .ok (.iinc 2 (-1), 3) := by decide +kernel
theorem dX4_putInOrder_58 : decode cX4_putInOrder 58 = .ok (.goto (-53), 3) := by decide +kernel
theorem dX4_putInOrder_61 : decode cX4_putInOrder 61 = .ok (.aload_n 0, 1) := by decide +kernel
theorem dX4_putInOrder_62 : decode cX4_putInOrder 62 = .ok (.getfield 9, 3) := by decide +kernel
theorem dX4_putInOrder_65 : decode cX4_putInOrder 65 = .ok (.iload_n 2, 1) := by decide +kernel
theorem dX4_putInOrder_66 : decode cX4_putInOrder 66 = .ok (.iload_n 1, 1) := by decide +kernel
theorem dX4_putInOrder_67 : decode cX4_putInOrder 67 = .ok (.invokestatic 82, 3) := by decide +kernel
theorem dX4_putInOrder_70 : decode cX4_putInOrder 70 = .ok (.aload_n 0, 1) := by decide +kernel
theorem dX4_putInOrder_71 : decode cX4_putInOrder 71 = .ok (.dup, 1) := by decide +kernel
theorem dX4_putInOrder_72 : decode cX4_putInOrder 72 = .ok (.getfield 55, 3) := by decide +kernel
theorem dX4_putInOrder_75 : decode cX4_putInOrder 75 = .ok (.iconst 1, 1) := by decide +kernel
theorem dX4_putInOrder_76 : decode cX4_putInOrder 76 = .ok (.iadd, 1) := by decide +kernel
theorem dX4_putInOrder_77 : decode cX4_putInOrder 77 = .ok (.putfield 55, 3) := by decide +kernel
theorem dX4_putInOrder_80 : decode cX4_putInOrder 80 = .ok (.iload_n 2, 1) := by decide +kernel
theorem dX4_putInOrder_81 : decode cX4_putInOrder 81 = .ok (.ireturn, 1) := by decide +kernel
set_option maxRecDepth 20000 in
theorem ggX4_perform_X5_at : GoodIn wsX4_perform wsX5_at := goodIn_r _ [4] (by decide +kernel) (by decide +kernel)
set_option maxRecDepth 20000 in
theorem gX4_perform_X5_at_n58 : GoodIn wsX4_perform (wsX5_at) := ggX4_perform_X5_at
set_option maxRecDepth 20000 in
theorem ggX4_perform_X4_performAdding : GoodIn wsX4_perform wsX4_performAdding := goodIn_r _ [9, 10, 11, 12, 13, 14, 15, 16, 8, 17, 18, 19, 20, 21, 22, 23, 24, 25, 26, 27, 28, 29, 67, 68, 69, 70, 71, 72, 73, 74, 75, 76, 77] (by decide +kernel) (by decide +kernel)
set_option maxRecDepth 20000 in
theorem gX4_perform_X4_performAdding : GoodIn wsX4_perform (wsV RX4 101 RX4 yX4_performAdding wsX4_performAdding) := goodIn_app (goodIn_of _ (by decide +kernel)) ggX4_perform_X4_performAdding
set_option maxRecDepth 20000 in
theorem ggX4_perform_X4_performSetting : GoodIn wsX4_perform wsX4_performSetting := goodIn_r _ [33, 34, 19, 20, 21, 8, 22, 10, 35, 36, 37, 38, 39, 12, 2, 3, 4, 40, 41, 42, 43, 44, 45, 46, 47, 48, 49, 50, 67, 68, 69, 70, 71, 72, 73, 74, 75, 76, 77, 85, 86] (by decide +kernel) (by decide +kernel)
set_option maxRecDepth 20000 in
theorem gX4_perform_X4_performSetting : GoodIn wsX4_perform (wsV RX4 105 RX4 yX4_performSetting wsX4_performSetting) := goodIn_app (goodIn_of _ (by decide +kernel)) ggX4_perform_X4_performSetting
set_option maxRecDepth 20000 in
theorem ggX4_perform_X4_performMoving : GoodIn wsX4_perform wsX4_performMoving := goodIn_r _ [54, 11, 19, 20, 21, 8, 22, 10, 55, 56, 57, 58, 59, 60, 61, 62, 18, 2, 3, 4, 14, 15, 16, 17, 23, 24, 25, 26, 27, 28, 29, 67, 68, 69, 70, 71, 72, 73, 74, 75, 76, 77] (by decide +kernel) (by decide +kernel)
set_option maxRecDepth 20000 in
theorem gX4_perform_X4_performMoving : GoodIn wsX4_perform (wsV RX4 109 RX4 yX4_performMoving wsX4_performMoving) := goodIn_app (goodIn_of _ (by decide +kernel)) ggX4_perform_X4_performMoving
set_option maxRecDepth 20000 in
theorem ggX4_perform_X4_performDeleting : GoodIn wsX4_perform wsX4_performDeleting := goodIn_r _ [66, 10, 18, 13, 19, 20, 21, 8, 22, 14, 15, 16, 17, 11, 23, 24, 25, 26, 27, 28, 29, 67, 68, 69, 70, 71, 72, 73, 74, 75, 76, 77] (by decide +kernel) (by decide +kernel)
set_option maxRecDepth 20000 in
theorem gX4_perform_X4_performDeleting : GoodIn wsX4_perform (wsV RX4 112 RX4 yX4_performDeleting wsX4_performDeleting) := goodIn_app (goodIn_of _ (by decide +kernel)) ggX4_perform_X4_performDeleting
theorem dX4_perform_0 : decode cX4_perform 0 = .ok (.aload_n 0, 1) := by decide +kernel
theorem dX4_perform_1 : decode cX4_perform 1 = .ok (.getfield 35, 3) := by decide +kernel
theorem dX4_perform_4 : decode cX4_perform 4 = .ok (.getfield 86, 3) := by decide +kernel
theorem dX4_perform_7 : decode cX4_perform 7 = .ok (.iload_n 1, 1) := by decide +kernel
theorem dX4_perform_8 : decode cX4_perform 8 = .ok (.invokestatic 58, 3) := by decide +kernel
theorem dX4_perform_11 : decode cX4_perform 11 = .ok (.istore_n 2, 1) := by decide +kernel
theorem dX4_perform_12 : decode cX4_perform 12 = .ok (.aload_n 0, 1) := by decide +kernel
theorem dX4_perform_13 : decode cX4_perform 13 = .ok (.getfield 35, 3) := by decide +kernel
theorem dX4_perform_16 : decode cX4_perform 16 = .ok (.getfield 89, 3) := by decide +kernel
theorem dX4_perform_19 : decode cX4_perform 19 = .ok (.iload_n 1, 1) := by decide +kernel
theorem dX4_perform_20 : decode cX4_perform 20 = .ok (.invokestatic 58, 3) := by decide +kernel
theorem dX4_perform_23 : decode cX4_perform 23 = .ok (.istore_n 3, 1) := by decide +kernel
theorem dX4_perform_24 : decode cX4_perform 24 = .ok (.aload_n 0, 1) := by decide +kernel
theorem dX4_perform_25 : decode cX4_perform 25 = .ok (.getfield 35, 3) := by decide +kernel
theorem dX4_perform_28 : decode cX4_perform 28 = .ok (.getfield 92, 3) := by decide +kernel
theorem dX4_perform_31 : decode cX4_perform 31 = .ok (.iload_n 1, 1) := by decide +kernel
theorem dX4_perform_32 : decode cX4_perform 32 = .ok (.invokestatic 58, 3) := by decide +kernel
theorem dX4_perform_35 : decode cX4_perform 35 = .ok (.istore 4, 2) := by decide +kernel
theorem dX4_perform_37 : decode cX4_perform 37 = .ok (.aload_n 0, 1) := by decide +kernel
theorem dX4_perform_38 : decode cX4_perform 38 = .ok (.getfield 35, 3) := by decide +kernel
theorem dX4_perform_41 : decode cX4_perform 41 = .ok (.getfield 95, 3) := by decide +kernel
theorem dX4_perform_44 : decode cX4_perform 44 = .ok (.iload_n 1, 1) := by decide +kernel
theorem dX4_perform_45 : decode cX4_perform 45 = .ok (.invokestatic 58, 3) := by decide +kernel
theorem dX4_perform_48 : decode cX4_perform 48 = .ok (.tableswitch 84 0 3 #[32, 54, 65, 76], 32) := by decide +kernel
theorem dX4_perform_80 : decode cX4_perform 80 = .ok (.aload_n 0, 1) := by decide +kernel
theorem dX4_perform_81 : decode cX4_perform 81 = .ok (.iload_n 2, 1) := by decide +kernel
theorem dX4_perform_82 : decode cX4_perform 82 = .ok (.iload_n 3, 1) := by decide +kernel
theorem dX4_perform_83 : decode cX4_perform 83 = .ok (.iload 4, 2) := by decide +kernel
theorem dX4_perform_85 : decode cX4_perform 85 = .ok (.aload_n 0, 1) := by decide +kernel
theorem dX4_perform_86 : decode cX4_perform 86 = .ok (.getfield 35, 3) := by decide +kernel
theorem dX4_perform_89 : decode cX4_perform 89 = .ok (.getfield 98, 3) := by decide +kernel
theorem dX4_perform_92 : decode cX4_perform 92 = .ok (.iload_n 1, 1) := by decide +kernel
theorem dX4_perform_93 : decode cX4_perform 93 = .ok (.invokestatic 58, 3) := by decide +kernel
theorem dX4_perform_96 : decode cX4_perform 96 = .ok (.invokevirtual 101, 3) := by decide +kernel
theorem dX4_perform_99 : decode cX4_perform 99 = .ok (.goto 33, 3) := by decide +kernel
theorem dX4_perform_102 : decode cX4_perform 102 = .ok (.aload_n 0, 1) := by decide +kernel
theorem dX4_perform_103 : decode cX4_perform 103 = .ok (.iload_n 2, 1) := by decide +kernel
theorem dX4_perform_104 : decode cX4_perform 104 = .ok (.iload_n 3, 1) := by decide +kernel
theorem dX4_perform_105 : decode cX4_perform 105 = .ok (.iload 4, 2) := by decide +kernel
theorem dX4_perform_107 : decode cX4_perform 107 = .ok (.invokevirtual 105, 3) := by decide +kernel
theorem dX4_perform_110 : decode cX4_perform 110 = .ok (.goto 22, 3) := by decide +kernel
theorem dX4_perform_113 : decode cX4_perform 113 = .ok (.aload_n 0, 1) := by decide +kernel
theorem dX4_perform_114 : decode cX4_perform 114 = .ok (.iload_n 2, 1) := by decide +kernel
theorem dX4_perform_115 : decode cX4_perform 115 = .ok (.iload_n 3, 1) := by decide +kernel
theorem dX4_perform_116 : decode cX4_perform 116 = .ok (.iload 4, 2) := by decide +kernel
theorem dX4_perform_118 : decode cX4_perform 118 = .ok (.invokevirtual 109, 3) := by decide +kernel
theorem dX4_perform_121 : decode cX4_perform 121 = .ok (.goto 11, 3) := by decide +kernel
theorem dX4_perform_124 : decode cX4_perform 124 = .ok (.aload_n 0, 1) := by decide +kernel
theorem dX4_perform_125 : decode cX4_perform 125 = .ok (.iload_n 2, 1) := by decide +kernel
theorem dX4_perform_126 : decode cX4_perform 126 = .ok (.invokevirtual 112, 3) := by decide +kernel
theorem dX4_perform_129 : decode cX4_perform 129 = .ok (.goto 3, 3) := by decide +kernel
theorem dX4_perform_132 : decode cX4_perform 132 = .ok (.return_, 1) := by decide +kernel
set_option maxRecDepth 20000 in
theorem ggX4_performAdding_X4_settle : GoodIn wsX4_performAdding wsX4_settle := goodIn_r _ [9, 2, 10, 11, 12, 13, 8, 14, 1, 15, 16, 17, 18, 19, 20, 21, 22, 23, 24, 25, 26, 27, 28, 29, 30, 31, 32] (by decide +kernel) (by decide +kernel)
set_option maxRecDepth 20000 in
theorem gX4_performAdding_X4_settle : GoodIn wsX4_performAdding (wsV RX4 115 RX4 yX4_settle wsX4_settle) := goodIn_app (goodIn_of _ (by decide +kernel)) ggX4_performAdding_X4_settle
theorem dX4_performAdding_0 : decode cX4_performAdding 0 = .ok (.iload_n 1, 1) := by decide +kernel
theorem dX4_performAdding_1 : decode cX4_performAdding 1 = .ok (.ifCond .lt 9, 3) := by decide +kernel
theorem dX4_performAdding_4 : decode cX4_performAdding 4 = .ok (.iload_n 1, 1) := by decide +kernel
theorem dX4_performAdding_5 : decode cX4_performAdding 5 = .ok (.bipush 42, 2) := by decide +kernel
theorem dX4_performAdding_7 : decode cX4_performAdding 7 = .ok (.if_icmp .lt 4, 3) := by decide +kernel
theorem dX4_performAdding_10 : decode cX4_performAdding 10 = .ok (.return_, 1) := by decide +kernel
theorem dX4_performAdding_11 : decode cX4_performAdding 11 = .ok (.aload_n 0, 1) := by decide +kernel
theorem dX4_performAdding_12 : decode cX4_performAdding 12 = .ok (.getfield 15, 3) := by decide +kernel
theorem dX4_performAdding_15 : decode cX4_performAdding 15 = .ok (.iload_n 1, 1) := by decide +kernel
theorem dX4_performAdding_16 : decode cX4_performAdding 16 = .ok (.iconst 1, 1) := by decide +kernel
theorem dX4_performAdding_17 : decode cX4_performAdding 17 = .ok (.bastore, 1) := by decide +kernel
theorem dX4_performAdding_18 : decode cX4_performAdding 18 = .ok (.aload_n 0, 1) := by decide +kernel
theorem dX4_performAdding_19 : decode cX4_performAdding 19 = .ok (.getfield 22, 3) := by decide +kernel
theorem dX4_performAdding_22 : decode cX4_performAdding 22 = .ok (.iload_n 1, 1) := by decide +kernel
theorem dX4_performAdding_23 : decode cX4_performAdding 23 = .ok (.iload_n 3, 1) := by decide +kernel
theorem dX4_performAdding_24 : decode cX4_performAdding 24 = .ok (.iastore, 1) := by decide +kernel
theorem dX4_performAdding_25 : decode cX4_performAdding 25 = .ok (.aload_n 0, 1) := by decide +kernel
theorem dX4_performAdding_26 : decode cX4_performAdding 26 = .ok (.getfield 25, 3) := by decide +kernel
theorem dX4_performAdding_29 : decode cX4_performAdding 29 = .ok (.iload_n 1, 1) := by decide +kernel
theorem dX4_performAdding_30 : decode cX4_performAdding 30 = .ok (.iload 4, 2) := by decide +kernel
theorem dX4_performAdding_32 : decode cX4_performAdding 32 = .ok (.iastore, 1) := by decide +kernel
theorem dX4_performAdding_33 : decode cX4_performAdding 33 = .ok (.aload_n 0, 1) := by decide +kernel
theorem dX4_performAdding_34 : decode cX4_performAdding 34 = .ok (.dup, 1) := by decide +kernel
theorem dX4_performAdding_35 : decode cX4_performAdding 35 = .ok (.getfield 52, 3) := by decide +kernel
theorem dX4_performAdding_38 : decode cX4_performAdding 38 = .ok (.iconst 1, 1) := by decide +kernel
theorem dX4_performAdding_39 : decode cX4_performAdding 39 = .ok (.iadd, 1) := by decide +kernel
theorem dX4_performAdding_40 : decode cX4_performAdding 40 = .ok (.putfield 52, 3) := by decide +kernel
theorem dX4_performAdding_43 : decode cX4_performAdding 43 = .ok (.aload_n 0, 1) := by decide +kernel
theorem dX4_performAdding_44 : decode cX4_performAdding 44 = .ok (.iload_n 1, 1) := by decide +kernel
theorem dX4_performAdding_45 : decode cX4_performAdding 45 = .ok (.iload_n 2, 1) := by decide +kernel
theorem dX4_performAdding_46 : decode cX4_performAdding 46 = .ok (.invokevirtual 115, 3) := by decide +kernel
theorem dX4_performAdding_49 : decode cX4_performAdding 49 = .ok (.return_, 1) := by decide +kernel
set_option maxRecDepth 20000 in
theorem ggX4_performSetting_X4_has : GoodIn wsX4_performSetting wsX4_has := goodIn_r _ [6, 7, 28, 29, 30, 31, 32, 33, 34, 35, 36, 37, 38] (by decide +kernel) (by decide +kernel)
set_option maxRecDepth 20000 in
theorem gX4_performSetting_X4_has : GoodIn wsX4_performSetting (wsV RX4 119 RX4 yX4_has wsX4_has) := goodIn_app (goodIn_of _ (by decide +kernel)) ggX4_performSetting_X4_has
set_option maxRecDepth 20000 in
theorem ggX4_performSetting_X4_mayHold : GoodIn wsX4_performSetting wsX4_mayHold := goodIn_r _ [11, 12, 13, 14, 15, 16, 17, 18, 19, 20, 21, 22, 23, 24, 25, 28, 29, 30, 31, 32, 33, 34, 35, 36, 37, 38, 39, 40] (by decide +kernel) (by decide +kernel)
set_option maxRecDepth 20000 in
theorem gX4_performSetting_X4_mayHold : GoodIn wsX4_performSetting (wsV RX4 123 RX4 yX4_mayHold wsX4_mayHold) := goodIn_app (goodIn_of _ (by decide +kernel)) ggX4_performSetting_X4_mayHold
set_option maxRecDepth 20000 in
theorem ggX4_performSetting_X5_put : GoodIn wsX4_performSetting wsX5_put := goodIn_r _ [27] (by decide +kernel) (by decide +kernel)
set_option maxRecDepth 20000 in
theorem gX4_performSetting_X5_put_n82 : GoodIn wsX4_performSetting (wsX5_put) := ggX4_performSetting_X5_put
theorem dX4_performSetting_0 : decode cX4_performSetting 0 = .ok (.aload_n 0, 1) := by decide +kernel
theorem dX4_performSetting_1 : decode cX4_performSetting 1 = .ok (.iload_n 1, 1) := by decide +kernel
theorem dX4_performSetting_2 : decode cX4_performSetting 2 = .ok (.invokevirtual 119, 3) := by decide +kernel
theorem dX4_performSetting_5 : decode cX4_performSetting 5 = .ok (.ifCond .eq 25, 3) := by decide +kernel
theorem dX4_performSetting_8 : decode cX4_performSetting 8 = .ok (.aload_n 0, 1) := by decide +kernel
theorem dX4_performSetting_9 : decode cX4_performSetting 9 = .ok (.iload_n 1, 1) := by decide +kernel
theorem dX4_performSetting_10 : decode cX4_performSetting 10 = .ok (.iload_n 2, 1) := by decide +kernel
theorem dX4_performSetting_11 : decode cX4_performSetting 11 = .ok (.invokevirtual 123, 3) := by decide +kernel
theorem dX4_performSetting_14 : decode cX4_performSetting 14 = .ok (.ifCond .eq 16, 3) := by decide +kernel
theorem dX4_performSetting_17 : decode cX4_performSetting 17 = .ok (.aload_n 0, 1) := by decide +kernel
theorem dX4_performSetting_18 : decode cX4_performSetting 18 = .ok (.getfield 28, 3) := by decide +kernel
theorem dX4_performSetting_21 : decode cX4_performSetting 21 = .ok (.iload_n 1, 1) := by decide +kernel
theorem dX4_performSetting_22 : decode cX4_performSetting 22 = .ok (.iconst 4, 1) := by decide +kernel
theorem dX4_performSetting_23 : decode cX4_performSetting 23 = .ok (.imul, 1) := by decide +kernel
theorem dX4_performSetting_24 : decode cX4_performSetting 24 = .ok (.iload_n 2, 1) := by decide +kernel
theorem dX4_performSetting_25 : decode cX4_performSetting 25 = .ok (.iadd, 1) := by decide +kernel
theorem dX4_performSetting_26 : decode cX4_performSetting 26 = .ok (.iload_n 3, 1) := by decide +kernel
theorem dX4_performSetting_27 : decode cX4_performSetting 27 = .ok (.invokestatic 82, 3) := by decide +kernel
theorem dX4_performSetting_30 : decode cX4_performSetting 30 = .ok (.return_, 1) := by decide +kernel
set_option maxRecDepth 20000 in
theorem ggX4_performMoving_X4_has : GoodIn wsX4_performMoving wsX4_has := goodIn_r _ [6, 7, 31, 32, 33, 34, 35, 36, 37, 38, 39, 40, 41] (by decide +kernel) (by decide +kernel)
set_option maxRecDepth 20000 in
theorem gX4_performMoving_X4_has : GoodIn wsX4_performMoving (wsV RX4 119 RX4 yX4_has wsX4_has) := goodIn_app (goodIn_of _ (by decide +kernel)) ggX4_performMoving_X4_has
set_option maxRecDepth 20000 in
theorem ggX4_performMoving_X4_isAtOrBelow : GoodIn wsX4_performMoving wsX4_isAtOrBelow := goodIn_r _ [11, 12, 13, 14, 5, 15, 16, 17, 18, 19, 31, 32, 33, 34, 35, 36, 37, 38, 39, 40, 41] (by decide +kernel) (by decide +kernel)
set_option maxRecDepth 20000 in
theorem gX4_performMoving_X4_isAtOrBelow : GoodIn wsX4_performMoving (wsV RX4 127 RX4 yX4_isAtOrBelow wsX4_isAtOrBelow) := goodIn_app (goodIn_of _ (by decide +kernel)) ggX4_performMoving_X4_isAtOrBelow
set_option maxRecDepth 20000 in
theorem ggX4_performMoving_X4_settle : GoodIn wsX4_performMoving wsX4_settle := goodIn_r _ [23, 1, 16, 2, 3, 4, 5, 6, 7, 24, 25, 26, 27, 28, 29, 30, 31, 32, 33, 34, 35, 36, 37, 38, 39, 40, 41] (by decide +kernel) (by decide +kernel)
set_option maxRecDepth 20000 in
theorem gX4_performMoving_X4_settle : GoodIn wsX4_performMoving (wsV RX4 115 RX4 yX4_settle wsX4_settle) := goodIn_app (goodIn_of _ (by decide +kernel)) ggX4_performMoving_X4_settle
theorem dX4_performMoving_0 : decode cX4_performMoving 0 = .ok (.aload_n 0, 1) := by decide +kernel
theorem dX4_performMoving_1 : decode cX4_performMoving 1 = .ok (.iload_n 1, 1) := by decide +kernel
theorem dX4_performMoving_2 : decode cX4_performMoving 2 = .ok (.invokevirtual 119, 3) := by decide +kernel
theorem dX4_performMoving_5 : decode cX4_performMoving 5 = .ok (.ifCond .eq 25, 3) := by decide +kernel
theorem dX4_performMoving_8 : decode cX4_performMoving 8 = .ok (.aload_n 0, 1) := by decide +kernel
theorem dX4_performMoving_9 : decode cX4_performMoving 9 = .ok (.iload_n 2, 1) := by decide +kernel
theorem dX4_performMoving_10 : decode cX4_performMoving 10 = .ok (.iload_n 1, 1) := by decide +kernel
theorem dX4_performMoving_11 : decode cX4_performMoving 11 = .ok (.invokevirtual 127, 3) := by decide +kernel
theorem dX4_performMoving_14 : decode cX4_performMoving 14 = .ok (.ifCond .ne 16, 3) := by decide +kernel
theorem dX4_performMoving_17 : decode cX4_performMoving 17 = .ok (.aload_n 0, 1) := by decide +kernel
theorem dX4_performMoving_18 : decode cX4_performMoving 18 = .ok (.getfield 22, 3) := by decide +kernel
theorem dX4_performMoving_21 : decode cX4_performMoving 21 = .ok (.iload_n 1, 1) := by decide +kernel
theorem dX4_performMoving_22 : decode cX4_performMoving 22 = .ok (.iload_n 3, 1) := by decide +kernel
theorem dX4_performMoving_23 : decode cX4_performMoving 23 = .ok (.iastore, 1) := by decide +kernel
theorem dX4_performMoving_24 : decode cX4_performMoving 24 = .ok (.aload_n 0, 1) := by decide +kernel
theorem dX4_performMoving_25 : decode cX4_performMoving 25 = .ok (.iload_n 1, 1) := by decide +kernel
theorem dX4_performMoving_26 : decode cX4_performMoving 26 = .ok (.iload_n 2, 1) := by decide +kernel
theorem dX4_performMoving_27 : decode cX4_performMoving 27 = .ok (.invokevirtual 115, 3) := by decide +kernel
theorem dX4_performMoving_30 : decode cX4_performMoving 30 = .ok (.return_, 1) := by decide +kernel
set_option maxRecDepth 20000 in
theorem ggX4_performDeleting_X4_has : GoodIn wsX4_performDeleting wsX4_has := goodIn_r _ [8, 1, 21, 22, 23, 24, 25, 26, 27, 28, 29, 30, 31] (by decide +kernel) (by decide +kernel)
set_option maxRecDepth 20000 in
theorem gX4_performDeleting_X4_has : GoodIn wsX4_performDeleting (wsV RX4 119 RX4 yX4_has wsX4_has) := goodIn_app (goodIn_of _ (by decide +kernel)) ggX4_performDeleting_X4_has
set_option maxRecDepth 20000 in
theorem ggX4_performDeleting_X4_settle : GoodIn wsX4_performDeleting wsX4_settle := goodIn_r _ [12, 13, 2, 4, 5, 6, 7, 8, 1, 14, 15, 16, 17, 18, 19, 20, 21, 22, 23, 24, 25, 26, 27, 28, 29, 30, 31] (by decide +kernel) (by decide +kernel)
set_option maxRecDepth 20000 in
theorem gX4_performDeleting_X4_settle : GoodIn wsX4_performDeleting (wsV RX4 115 RX4 yX4_settle wsX4_settle) := goodIn_app (goodIn_of _ (by decide +kernel)) ggX4_performDeleting_X4_settle
theorem dX4_performDeleting_0 : decode cX4_performDeleting 0 = .ok (.aload_n 0, 1) := by decide +kernel
theorem dX4_performDeleting_1 : decode cX4_performDeleting 1 = .ok (.iload_n 1, 1) := by decide +kernel
theorem dX4_performDeleting_2 : decode cX4_performDeleting 2 = .ok (.invokevirtual 119, 3) := by decide +kernel
theorem dX4_performDeleting_5 : decode cX4_performDeleting 5 = .ok (.ifCond .ne 4, 3) := by decide +kernel
theorem dX4_performDeleting_8 : decode cX4_performDeleting 8 = .ok (.return_, 1) := by decide +kernel
theorem dX4_performDeleting_9 : decode cX4_performDeleting 9 = .ok (.aload_n 0, 1) := by decide +kernel
theorem dX4_performDeleting_10 : decode cX4_performDeleting 10 = .ok (.getfield 15, 3) := by decide +kernel
theorem dX4_performDeleting_13 : decode cX4_performDeleting 13 = .ok (.iload_n 1, 1) := by decide +kernel
theorem dX4_performDeleting_14 : decode cX4_performDeleting 14 = .ok (.iconst 0, 1) := by decide +kernel
theorem dX4_performDeleting_15 : decode cX4_performDeleting 15 = .ok (.bastore, 1) := by decide +kernel
theorem dX4_performDeleting_16 : decode cX4_performDeleting 16 = .ok (.aload_n 0, 1) := by decide +kernel
theorem dX4_performDeleting_17 : decode cX4_performDeleting 17 = .ok (.getfield 19, 3) := by decide +kernel
theorem dX4_performDeleting_20 : decode cX4_performDeleting 20 = .ok (.iload_n 1, 1) := by decide +kernel
theorem dX4_performDeleting_21 : decode cX4_performDeleting 21 = .ok (.iconst (-1), 1) := by decide +kernel
theorem dX4_performDeleting_22 : decode cX4_performDeleting 22 = .ok (.iastore, 1) := by decide +kernel
theorem dX4_performDeleting_23 : decode cX4_performDeleting 23 = .ok (.aload_n 0, 1) := by decide +kernel
theorem dX4_performDeleting_24 : decode cX4_performDeleting 24 = .ok (.dup, 1) := by decide +kernel
theorem dX4_performDeleting_25 : decode cX4_performDeleting 25 = .ok (.getfield 52, 3) := by decide +kernel
theorem dX4_performDeleting_28 : decode cX4_performDeleting 28 = .ok (.iconst 1, 1) := by decide +kernel
theorem dX4_performDeleting_29 : decode cX4_performDeleting 29 = .ok (.isub, 1) := by decide +kernel
theorem dX4_performDeleting_30 : decode cX4_performDeleting 30 = .ok (.putfield 52, 3) := by decide +kernel
theorem dX4_performDeleting_33 : decode cX4_performDeleting 33 = .ok (.iconst 0, 1) := by decide +kernel
theorem dX4_performDeleting_34 : decode cX4_performDeleting 34 = .ok (.istore_n 2, 1) := by decide +kernel
theorem dX4_performDeleting_35 : decode cX4_performDeleting 35 = .ok (.iload_n 2, 1) := by decide +kernel
theorem dX4_performDeleting_36 : decode cX4_performDeleting 36 = .ok (.bipush 42, 2) := by decide +kernel
theorem dX4_performDeleting_38 : decode cX4_performDeleting 38 = .ok (.if_icmp .ge 25, 3) := by decide +kernel
theorem dX4_performDeleting_41 : decode cX4_performDeleting 41 = .ok (.aload_n 0, 1) := by decide +kernel
theorem dX4_performDeleting_42 : decode cX4_performDeleting 42 = .ok (.getfield 19, 3) := by decide +kernel
theorem dX4_performDeleting_45 : decode cX4_performDeleting 45 = .ok (.iload_n 2, 1) := by decide +kernel
theorem dX4_performDeleting_46 : decode cX4_performDeleting 46 = .ok (.iaload, 1) := by decide +kernel
theorem dX4_performDeleting_47 : decode cX4_performDeleting 47 = .ok (.iload_n 1, 1) := by decide +kernel
theorem dX4_performDeleting_48 : decode cX4_performDeleting 48 = .ok (.if_icmp .ne 9, 3) := by decide +kernel
theorem dX4_performDeleting_51 : decode cX4_performDeleting 51 = .ok (.aload_n 0, 1) := by decide +kernel
theorem dX4_performDeleting_52 : decode cX4_performDeleting 52 = .ok (.iload_n 2, 1) := by decide +kernel
theorem dX4_performDeleting_53 : decode cX4_performDeleting 53 = .ok (.iconst 1, 1) := by decide +kernel
theorem dX4_performDeleting_54 : decode cX4_performDeleting 54 = .ok (.invokevirtual 115, 3) := by decide +kernel
theorem dX4_performDeleting_57 : decode cX4_performDeleting 57 = .ok (.iinc 2 1, 3) := by decide +kernel
theorem dX4_performDeleting_60 : decode cX4_performDeleting 60 = .ok (.goto (-25), 3) := by decide +kernel
theorem dX4_performDeleting_63 : decode cX4_performDeleting 63 = .ok (.return_, 1) := by decide +kernel
set_option maxRecDepth 20000 in
theorem ggX4_settle_X4_has : GoodIn wsX4_settle wsX4_has := goodIn_r _ [7, 8, 16, 17, 18, 19, 20, 21, 22, 23, 24, 25, 26] (by decide +kernel) (by decide +kernel)
set_option maxRecDepth 20000 in
theorem gX4_settle_X4_has : GoodIn wsX4_settle (wsV RX4 119 RX4 yX4_has wsX4_has) := goodIn_app (goodIn_of _ (by decide +kernel)) ggX4_settle_X4_has
set_option maxRecDepth 20000 in
theorem ggX4_settle_X4_childWithLabelLike : GoodIn wsX4_settle wsX4_childWithLabelLike := goodIn_r _ [12, 2, 1, 13, 14, 6, 15, 16, 17, 18, 19, 20, 21, 22, 23, 24, 25, 26] (by decide +kernel) (by decide +kernel)
set_option maxRecDepth 20000 in
theorem gX4_settle_X4_childWithLabelLike : GoodIn wsX4_settle (wsV RX4 130 RX4 yX4_childWithLabelLike wsX4_childWithLabelLike) := goodIn_app (goodIn_of _ (by decide +kernel)) ggX4_settle_X4_childWithLabelLike
theorem dX4_settle_0 : decode cX4_settle 0 = .ok (.aload_n 0, 1) := by decide +kernel
theorem dX4_settle_1 : decode cX4_settle 1 = .ok (.iload_n 1, 1) := by decide +kernel
theorem dX4_settle_2 : decode cX4_settle 2 = .ok (.invokevirtual 119, 3) := by decide +kernel
theorem dX4_settle_5 : decode cX4_settle 5 = .ok (.ifCond .ne 4, 3) := by decide +kernel
theorem dX4_settle_8 : decode cX4_settle 8 = .ok (.return_, 1) := by decide +kernel
theorem dX4_settle_9 : decode cX4_settle 9 = .ok (.aload_n 0, 1) := by decide +kernel
theorem dX4_settle_10 : decode cX4_settle 10 = .ok (.iload_n 2, 1) := by decide +kernel
theorem dX4_settle_11 : decode cX4_settle 11 = .ok (.invokevirtual 119, 3) := by decide +kernel
theorem dX4_settle_14 : decode cX4_settle 14 = .ok (.ifCond .eq 7, 3) := by decide +kernel
theorem dX4_settle_17 : decode cX4_settle 17 = .ok (.iload_n 2, 1) := by decide +kernel
theorem dX4_settle_18 : decode cX4_settle 18 = .ok (.goto 4, 3) := by decide +kernel
theorem dX4_settle_21 : decode cX4_settle 21 = .ok (.iconst 1, 1) := by decide +kernel
theorem dX4_settle_22 : decode cX4_settle 22 = .ok (.istore_n 3, 1) := by decide +kernel
theorem dX4_settle_23 : decode cX4_settle 23 = .ok (.aload_n 0, 1) := by decide +kernel
theorem dX4_settle_24 : decode cX4_settle 24 = .ok (.iload_n 3, 1) := by decide +kernel
theorem dX4_settle_25 : decode cX4_settle 25 = .ok (.aload_n 0, 1) := by decide +kernel
theorem dX4_settle_26 : decode cX4_settle 26 = .ok (.getfield 22, 3) := by decide +kernel
theorem dX4_settle_29 : decode cX4_settle 29 = .ok (.iload_n 1, 1) := by decide +kernel
theorem dX4_settle_30 : decode cX4_settle 30 = .ok (.iaload, 1) := by decide +kernel
theorem dX4_settle_31 : decode cX4_settle 31 = .ok (.iload_n 1, 1) := by decide +kernel
theorem dX4_settle_32 : decode cX4_settle 32 = .ok (.invokevirtual 130, 3) := by decide +kernel
theorem dX4_settle_35 : decode cX4_settle 35 = .ok (.iconst (-1), 1) := by decide +kernel
theorem dX4_settle_36 : decode cX4_settle 36 = .ok (.if_icmp .eq 10, 3) := by decide +kernel
theorem dX4_settle_39 : decode cX4_settle 39 = .ok (.aload_n 0, 1) := by decide +kernel
theorem dX4_settle_40 : decode cX4_settle 40 = .ok (.getfield 22, 3) := by decide +kernel
theorem dX4_settle_43 : decode cX4_settle 43 = .ok (.iload_n 1, 1) := by decide +kernel
theorem dX4_settle_44 : decode cX4_settle 44 = .ok (.iconst (-1), 1) := by decide +kernel
theorem dX4_settle_45 : decode cX4_settle 45 = .ok (.iastore, 1) := by decide +kernel
theorem dX4_settle_46 : decode cX4_settle 46 = .ok (.aload_n 0, 1) := by decide +kernel
theorem dX4_settle_47 : decode cX4_settle 47 = .ok (.getfield 19, 3) := by decide +kernel
theorem dX4_settle_50 : decode cX4_settle 50 = .ok (.iload_n 1, 1) := by decide +kernel
theorem dX4_settle_51 : decode cX4_settle 51 = .ok (.iload_n 3, 1) := by decide +kernel
theorem dX4_settle_52 : decode cX4_settle 52 = .ok (.iastore, 1) := by decide +kernel
theorem dX4_settle_53 : decode cX4_settle 53 = .ok (.return_, 1) := by decide +kernel
theorem dX4_has_0 : decode cX4_has 0 = .ok (.iload_n 1, 1) := by decide +kernel
theorem dX4_has_1 : decode cX4_has 1 = .ok (.ifCond .lt 22, 3) := by decide +kernel
theorem dX4_has_4 : decode cX4_has 4 = .ok (.iload_n 1, 1) := by decide +kernel
theorem dX4_has_5 : decode cX4_has 5 = .ok (.bipush 42, 2) := by decide +kernel
theorem dX4_has_7 : decode cX4_has 7 = .ok (.if_icmp .ge 16, 3) := by decide +kernel
theorem dX4_has_10 : decode cX4_has 10 = .ok (.aload_n 0, 1) := by decide +kernel
theorem dX4_has_11 : decode cX4_has 11 = .ok (.getfield 15, 3) := by decide +kernel
theorem dX4_has_14 : decode cX4_has 14 = .ok (.iload_n 1, 1) := by decide +kernel
theorem dX4_has_15 : decode cX4_has 15 = .ok (.baload, 1) := by decide +kernel
theorem dX4_has_16 : decode cX4_has 16 = .ok (.ifCond .eq 7, 3) := by decide +kernel
theorem dX4_has_19 : decode cX4_has 19 = .ok (.iconst 1, 1) := by decide +kernel
theorem dX4_has_20 : decode cX4_has 20 = .ok (.goto 4, 3) := by decide +kernel
theorem dX4_has_23 : decode cX4_has 23 = .ok (.iconst 0, 1) := by decide +kernel
theorem dX4_has_24 : decode cX4_has 24 = .ok (.ireturn, 1) := by decide +kernel
set_option maxRecDepth 20000 in
theorem ggX4_parentAt_X5_at : GoodIn wsX4_parentAt wsX5_at := goodIn_r _ [4] (by decide +kernel) (by decide +kernel)
set_option maxRecDepth 20000 in
theorem gX4_parentAt_X5_at_n58 : GoodIn wsX4_parentAt (wsX5_at) := ggX4_parentAt_X5_at
theorem dX4_parentAt_0 : decode cX4_parentAt 0 = .ok (.aload_n 0, 1) := by decide +kernel
theorem dX4_parentAt_1 : decode cX4_parentAt 1 = .ok (.getfield 19, 3) := by decide +kernel
theorem dX4_parentAt_4 : decode cX4_parentAt 4 = .ok (.iload_n 1, 1) := by decide +kernel
theorem dX4_parentAt_5 : decode cX4_parentAt 5 = .ok (.invokestatic 58, 3) := by decide +kernel
theorem dX4_parentAt_8 : decode cX4_parentAt 8 = .ok (.ireturn, 1) := by decide +kernel
set_option maxRecDepth 20000 in
theorem ggX4_labelAt_X5_at : GoodIn wsX4_labelAt wsX5_at := goodIn_r _ [4] (by decide +kernel) (by decide +kernel)
set_option maxRecDepth 20000 in
theorem gX4_labelAt_X5_at_n58 : GoodIn wsX4_labelAt (wsX5_at) := ggX4_labelAt_X5_at
theorem dX4_labelAt_0 : decode cX4_labelAt 0 = .ok (.aload_n 0, 1) := by decide +kernel
theorem dX4_labelAt_1 : decode cX4_labelAt 1 = .ok (.getfield 22, 3) := by decide +kernel
theorem dX4_labelAt_4 : decode cX4_labelAt 4 = .ok (.iload_n 1, 1) := by decide +kernel
theorem dX4_labelAt_5 : decode cX4_labelAt 5 = .ok (.invokestatic 58, 3) := by decide +kernel
theorem dX4_labelAt_8 : decode cX4_labelAt 8 = .ok (.ireturn, 1) := by decide +kernel
set_option maxRecDepth 20000 in
theorem ggX4_valueAt_X5_at : GoodIn wsX4_valueAt wsX5_at := goodIn_r _ [4] (by decide +kernel) (by decide +kernel)
set_option maxRecDepth 20000 in
theorem gX4_valueAt_X5_at_n58 : GoodIn wsX4_valueAt (wsX5_at) := ggX4_valueAt_X5_at
theorem dX4_valueAt_0 : decode cX4_valueAt 0 = .ok (.aload_n 0, 1) := by decide +kernel
theorem dX4_valueAt_1 : decode cX4_valueAt 1 = .ok (.getfield 28, 3) := by decide +kernel
theorem dX4_valueAt_4 : decode cX4_valueAt 4 = .ok (.iload_n 1, 1) := by decide +kernel
theorem dX4_valueAt_5 : decode cX4_valueAt 5 = .ok (.iconst 4, 1) := by decide +kernel
theorem dX4_valueAt_6 : decode cX4_valueAt 6 = .ok (.imul, 1) := by decide +kernel
theorem dX4_valueAt_7 : decode cX4_valueAt 7 = .ok (.iload_n 2, 1) := by decide +kernel
theorem dX4_valueAt_8 : decode cX4_valueAt 8 = .ok (.iadd, 1) := by decide +kernel
theorem dX4_valueAt_9 : decode cX4_valueAt 9 = .ok (.invokestatic 58, 3) := by decide +kernel
theorem dX4_valueAt_12 : decode cX4_valueAt 12 = .ok (.ireturn, 1) := by decide +kernel
set_option maxRecDepth 20000 in
theorem ggX4_mayHold_X5_at : GoodIn wsX4_mayHold wsX5_at := goodIn_r _ [5] (by decide +kernel) (by decide +kernel)
set_option maxRecDepth 20000 in
theorem gX4_mayHold_X5_at_n58 : GoodIn wsX4_mayHold (wsX5_at) := ggX4_mayHold_X5_at
set_option maxRecDepth 20000 in
theorem ggX4_mayHold_X0_allows : GoodIn wsX4_mayHold wsX0_allows := goodIn_r _ [10, 11, 12, 13, 9, 14, 26, 27] (by decide +kernel) (by decide +kernel)
set_option maxRecDepth 20000 in
theorem gX4_mayHold_X0_allows : GoodIn wsX4_mayHold (wsV RX4 134 RX0 yX0_allows wsX0_allows) := goodIn_app (goodIn_of _ (by decide +kernel)) ggX4_mayHold_X0_allows
theorem dX4_mayHold_0 : decode cX4_mayHold 0 = .ok (.aload_n 0, 1) := by decide +kernel
theorem dX4_mayHold_1 : decode cX4_mayHold 1 = .ok (.getfield 39, 3) := by decide +kernel
theorem dX4_mayHold_4 : decode cX4_mayHold 4 = .ok (.aload_n 0, 1) := by decide +kernel
theorem dX4_mayHold_5 : decode cX4_mayHold 5 = .ok (.getfield 25, 3) := by decide +kernel
theorem dX4_mayHold_8 : decode cX4_mayHold 8 = .ok (.iload_n 1, 1) := by decide +kernel
theorem dX4_mayHold_9 : decode cX4_mayHold 9 = .ok (.invokestatic 58, 3) := by decide +kernel
theorem dX4_mayHold_12 : decode cX4_mayHold 12 = .ok (.iload_n 2, 1) := by decide +kernel
theorem dX4_mayHold_13 : decode cX4_mayHold 13 = .ok (.invokevirtual 134, 3) := by decide +kernel
theorem dX4_mayHold_16 : decode cX4_mayHold 16 = .ok (.ireturn, 1) := by decide +kernel
set_option maxRecDepth 20000 in
theorem ggX4_hasAllNeeded_X5_at : GoodIn wsX4_hasAllNeeded wsX5_at := goodIn_r _ [5] (by decide +kernel) (by decide +kernel)
set_option maxRecDepth 20000 in
theorem gX4_hasAllNeeded_X5_at_n58 : GoodIn wsX4_hasAllNeeded (wsX5_at) := ggX4_hasAllNeeded_X5_at
set_option maxRecDepth 20000 in
theorem ggX4_hasAllNeeded_X0_needs : GoodIn wsX4_hasAllNeeded wsX0_needs := goodIn_r _ [10, 11, 12, 13, 9, 14, 32, 33] (by decide +kernel) (by decide +kernel)
set_option maxRecDepth 20000 in
theorem gX4_hasAllNeeded_X0_needs : GoodIn wsX4_hasAllNeeded (wsV RX4 139 RX0 yX0_needs wsX0_needs) := goodIn_app (goodIn_of _ (by decide +kernel)) ggX4_hasAllNeeded_X0_needs
set_option maxRecDepth 20000 in
theorem ggX4_hasAllNeeded_X4_valueAt : GoodIn wsX4_hasAllNeeded wsX4_valueAt := goodIn_r _ [19, 20, 3, 4, 5, 21, 22, 23, 24, 25, 26, 27, 28, 29, 30, 31] (by decide +kernel) (by decide +kernel)
set_option maxRecDepth 20000 in
theorem gX4_hasAllNeeded_X4_valueAt : GoodIn wsX4_hasAllNeeded (wsV RX4 142 RX4 yX4_valueAt wsX4_valueAt) := goodIn_app (goodIn_of _ (by decide +kernel)) ggX4_hasAllNeeded_X4_valueAt
theorem dX4_hasAllNeeded_0 : decode cX4_hasAllNeeded 0 = .ok (.aload_n 0, 1) := by decide +kernel
theorem dX4_hasAllNeeded_1 : decode cX4_hasAllNeeded 1 = .ok (.getfield 25, 3) := by decide +kernel
theorem dX4_hasAllNeeded_4 : decode cX4_hasAllNeeded 4 = .ok (.iload_n 1, 1) := by decide +kernel
theorem dX4_hasAllNeeded_5 : decode cX4_hasAllNeeded 5 = .ok (.invokestatic 58, 3) := by decide +kernel
theorem dX4_hasAllNeeded_8 : decode cX4_hasAllNeeded 8 = .ok (.istore_n 2, 1) := by decide +kernel
theorem dX4_hasAllNeeded_9 : decode cX4_hasAllNeeded 9 = .ok (.iconst 0, 1) := by decide +kernel
theorem dX4_hasAllNeeded_10 : decode cX4_hasAllNeeded 10 = .ok (.istore_n 3, 1) := by decide +kernel
theorem dX4_hasAllNeeded_11 : decode cX4_hasAllNeeded 11 = .ok (.iload_n 3, 1) := by decide +kernel
theorem dX4_hasAllNeeded_12 : decode cX4_hasAllNeeded 12 = .ok (.iconst 4, 1) := by decide +kernel
theorem dX4_hasAllNeeded_13 : decode cX4_hasAllNeeded 13 = .ok (.if_icmp .ge 33, 3) := by decide +kernel
theorem dX4_hasAllNeeded_16 : decode cX4_hasAllNeeded 16 = .ok (.aload_n 0, 1) := by decide +kernel
theorem dX4_hasAllNeeded_17 : decode cX4_hasAllNeeded 17 = .ok (.getfield 39, 3) := by decide +kernel
theorem dX4_hasAllNeeded_20 : decode cX4_hasAllNeeded 20 = .ok (.iload_n 2, 1) := by decide +kernel
theorem dX4_hasAllNeeded_21 : decode cX4_hasAllNeeded 21 = .ok (.iload_n 3, 1) := by decide +kernel
theorem dX4_hasAllNeeded_22 : decode cX4_hasAllNeeded 22 = .ok (.invokevirtual 139, 3) := by decide +kernel
theorem dX4_hasAllNeeded_25 : decode cX4_hasAllNeeded 25 = .ok (.ifCond .eq 15, 3) := by decide +kernel
theorem dX4_hasAllNeeded_28 : decode cX4_hasAllNeeded 28 = .ok (.aload_n 0, 1) := by decide +kernel
theorem dX4_hasAllNeeded_29 : decode cX4_hasAllNeeded 29 = .ok (.iload_n 1, 1) := by decide +kernel
theorem dX4_hasAllNeeded_30 : decode cX4_hasAllNeeded 30 = .ok (.iload_n 3, 1) := by decide +kernel
theorem dX4_hasAllNeeded_31 : decode cX4_hasAllNeeded 31 = .ok (.invokevirtual 142, 3) := by decide +kernel
theorem dX4_hasAllNeeded_34 : decode cX4_hasAllNeeded 34 = .ok (.iconst (-1), 1) := by decide +kernel
theorem dX4_hasAllNeeded_35 : decode cX4_hasAllNeeded 35 = .ok (.if_icmp .ne 5, 3) := by decide +kernel
theorem dX4_hasAllNeeded_38 : decode cX4_hasAllNeeded 38 = .ok (.iconst 0, 1) := by decide +kernel
theorem dX4_hasAllNeeded_39 : decode cX4_hasAllNeeded 39 = .ok (.ireturn, 1) := by decide +kernel
theorem dX4_hasAllNeeded_40 : decode cX4_hasAllNeeded 40 = .ok (.iinc 3 1, 3) := by decide +kernel
theorem dX4_hasAllNeeded_43 : decode cX4_hasAllNeeded 43 = .ok (.goto (-32), 3) := by decide +kernel
theorem dX4_hasAllNeeded_46 : decode cX4_hasAllNeeded 46 = .ok (.iconst 1, 1) := by decide +kernel
theorem dX4_hasAllNeeded_47 : decode cX4_hasAllNeeded 47 = .ok (.ireturn, 1) := by decide +kernel
set_option maxRecDepth 20000 in
theorem ggX4_isAtOrBelow_X4_parentAt : GoodIn wsX4_isAtOrBelow wsX4_parentAt := goodIn_r _ [5, 6, 7, 8, 9, 10, 11, 12, 13, 14, 15, 16, 17, 18, 19, 20] (by decide +kernel) (by decide +kernel)
set_option maxRecDepth 20000 in
theorem gX4_isAtOrBelow_X4_parentAt : GoodIn wsX4_isAtOrBelow (wsV RX4 145 RX4 yX4_parentAt wsX4_parentAt) := goodIn_app (goodIn_of _ (by decide +kernel)) ggX4_isAtOrBelow_X4_parentAt
theorem dX4_isAtOrBelow_0 : decode cX4_isAtOrBelow 0 = .ok (.iload_n 1, 1) := by decide +kernel
theorem dX4_isAtOrBelow_1 : decode cX4_isAtOrBelow 1 = .ok (.istore_n 3, 1) := by decide +kernel
theorem dX4_isAtOrBelow_2 : decode cX4_isAtOrBelow 2 = .ok (.iconst 0, 1) := by decide +kernel
theorem dX4_isAtOrBelow_3 : decode cX4_isAtOrBelow 3 = .ok (.istore 4, 2) := by decide +kernel
theorem dX4_isAtOrBelow_5 : decode cX4_isAtOrBelow 5 = .ok (.iload 4, 2) := by decide +kernel
theorem dX4_isAtOrBelow_7 : decode cX4_isAtOrBelow 7 = .ok (.bipush 42, 2) := by decide +kernel
theorem dX4_isAtOrBelow_9 : decode cX4_isAtOrBelow 9 = .ok (.if_icmp .ge 27, 3) := by decide +kernel
theorem dX4_isAtOrBelow_12 : decode cX4_isAtOrBelow 12 = .ok (.iload_n 3, 1) := by decide +kernel
theorem dX4_isAtOrBelow_13 : decode cX4_isAtOrBelow 13 = .ok (.iconst (-1), 1) := by decide +kernel
theorem dX4_isAtOrBelow_14 : decode cX4_isAtOrBelow 14 = .ok (.if_icmp .eq 22, 3) := by decide +kernel
theorem dX4_isAtOrBelow_17 : decode cX4_isAtOrBelow 17 = .ok (.iload_n 3, 1) := by decide +kernel
theorem dX4_isAtOrBelow_18 : decode cX4_isAtOrBelow 18 = .ok (.iload_n 2, 1) := by decide +kernel
theorem dX4_isAtOrBelow_19 : decode cX4_isAtOrBelow 19 = .ok (.if_icmp .ne 5, 3) := by decide +kernel
theorem dX4_isAtOrBelow_22 : decode cX4_isAtOrBelow 22 = .ok (.iconst 1, 1) := by decide +kernel
theorem dX4_isAtOrBelow_23 : decode cX4_isAtOrBelow 23 = .ok (.ireturn, 1) := by decide +kernel
theorem dX4_isAtOrBelow_24 : decode cX4_isAtOrBelow 24 = .ok (.aload_n 0, 1) := by decide +kernel
theorem dX4_isAtOrBelow_25 : decode cX4_isAtOrBelow 25 = .ok (.iload_n 3, 1) := by decide +kernel
theorem dX4_isAtOrBelow_26 : decode cX4_isAtOrBelow 26 = .ok (.invokevirtual 145, 3) := by decide +kernel
theorem dX4_isAtOrBelow_29 : decode cX4_isAtOrBelow 29 = .ok (.istore_n 3, 1) := by decide +kernel
theorem dX4_isAtOrBelow_30 : decode cX4_isAtOrBelow 30 = .ok (.iinc 4 1, 3) := by decide +kernel
theorem dX4_isAtOrBelow_33 : decode cX4_isAtOrBelow 33 = .ok (.goto (-28), 3) := by decide +kernel
theorem dX4_isAtOrBelow_36 : decode cX4_isAtOrBelow 36 = .ok (.iconst 0, 1) := by decide +kernel
theorem dX4_isAtOrBelow_37 : decode cX4_isAtOrBelow 37 = .ok (.ireturn, 1) := by decide +kernel
theorem dX4_hasChild_0 : decode cX4_hasChild 0 = .ok (.iconst 0, 1) := by decide +kernel
theorem dX4_hasChild_1 : decode cX4_hasChild 1 = .ok (.istore_n 2, 1) := by decide +kernel
theorem dX4_hasChild_2 : decode cX4_hasChild 2 = .ok (.iload_n 2, 1) := by decide +kernel
theorem dX4_hasChild_3 : decode cX4_hasChild 3 = .ok (.bipush 42, 2) := by decide +kernel
theorem dX4_hasChild_5 : decode cX4_hasChild 5 = .ok (.if_icmp .ge 21, 3) := by decide +kernel
theorem dX4_hasChild_8 : decode cX4_hasChild 8 = .ok (.aload_n 0, 1) := by decide +kernel
theorem dX4_hasChild_9 : decode cX4_hasChild 9 = .ok (.getfield 19, 3) := by decide +kernel
theorem dX4_hasChild_12 : decode cX4_hasChild 12 = .ok (.iload_n 2, 1) := by decide +kernel
theorem dX4_hasChild_13 : decode cX4_hasChild 13 = .ok (.iaload, 1) := by decide +kernel
theorem dX4_hasChild_14 : decode cX4_hasChild 14 = .ok (.iload_n 1, 1) := by decide +kernel
theorem dX4_hasChild_15 : decode cX4_hasChild 15 = .ok (.if_icmp .ne 5, 3) := by decide +kernel
theorem dX4_hasChild_18 : decode cX4_hasChild 18 = .ok (.iconst 1, 1) := by decide +kernel
theorem dX4_hasChild_19 : decode cX4_hasChild 19 = .ok (.ireturn, 1) := by decide +kernel
theorem dX4_hasChild_20 : decode cX4_hasChild 20 = .ok (.iinc 2 1, 3) := by decide +kernel
theorem dX4_hasChild_23 : decode cX4_hasChild 23 = .ok (.goto (-21), 3) := by decide +kernel
theorem dX4_hasChild_26 : decode cX4_hasChild 26 = .ok (.iconst 0, 1) := by decide +kernel
theorem dX4_hasChild_27 : decode cX4_hasChild 27 = .ok (.ireturn, 1) := by decide +kernel
set_option maxRecDepth 20000 in
theorem ggX4_childWithLabelLike_X4_areLike : GoodIn wsX4_childWithLabelLike wsX4_areLike := goodIn_r _ [6] (by decide +kernel) (by decide +kernel)
set_option maxRecDepth 20000 in
theorem gX4_childWithLabelLike_X4_areLike : GoodIn wsX4_childWithLabelLike (va_wsS RX4 148 yX4_areLike wsX4_areLike) := goodIn_app (goodIn_of _ (by decide +kernel)) ggX4_childWithLabelLike_X4_areLike
theorem dX4_childWithLabelLike_0 : decode cX4_childWithLabelLike 0 = .ok (.iconst 0, 1) := by decide +kernel
theorem dX4_childWithLabelLike_1 : decode cX4_childWithLabelLike 1 = .ok (.istore 4, 2) := by decide +kernel
theorem dX4_childWithLabelLike_3 : decode cX4_childWithLabelLike 3 = .ok (.iload 4, 2) := by decide +kernel
theorem dX4_childWithLabelLike_5 : decode cX4_childWithLabelLike 5 = .ok (.bipush 42, 2) := by decide +kernel
theorem dX4_childWithLabelLike_7 : decode cX4_childWithLabelLike 7 = .ok (.if_icmp .ge 43, 3) := by decide +kernel
theorem dX4_childWithLabelLike_10 : decode cX4_childWithLabelLike 10 = .ok (.aload_n 0, 1) := by decide +kernel
theorem dX4_childWithLabelLike_11 : decode cX4_childWithLabelLike 11 = .ok (.getfield 19, 3) := by decide +kernel
theorem dX4_childWithLabelLike_14 : decode cX4_childWithLabelLike 14 = .ok (.iload 4, 2) := by decide +kernel
theorem dX4_childWithLabelLike_16 : decode cX4_childWithLabelLike 16 = .ok (.iaload, 1) := by decide +kernel
theorem dX4_childWithLabelLike_17 : decode cX4_childWithLabelLike 17 = .ok (.iload_n 1, 1) := by decide +kernel
theorem dX4_childWithLabelLike_18 : decode cX4_childWithLabelLike 18 = .ok (.if_icmp .ne 26, 3) := by decide +kernel
theorem dX4_childWithLabelLike_21 : decode cX4_childWithLabelLike 21 = .ok (.iload 4, 2) := by decide +kernel
theorem dX4_childWithLabelLike_23 : decode cX4_childWithLabelLike 23 = .ok (.iload_n 3, 1) := by decide +kernel
theorem dX4_childWithLabelLike_24 : decode cX4_childWithLabelLike 24 = .ok (.if_icmp .eq 20, 3) := by decide +kernel
theorem dX4_childWithLabelLike_27 : decode cX4_childWithLabelLike 27 = .ok (.aload_n 0, 1) := by decide +kernel
theorem dX4_childWithLabelLike_28 : decode cX4_childWithLabelLike 28 = .ok (.getfield 22, 3) := by decide +kernel
theorem dX4_childWithLabelLike_31 : decode cX4_childWithLabelLike 31 = .ok (.iload 4, 2) := by decide +kernel
theorem dX4_childWithLabelLike_33 : decode cX4_childWithLabelLike 33 = .ok (.iaload, 1) := by decide +kernel
theorem dX4_childWithLabelLike_34 : decode cX4_childWithLabelLike 34 = .ok (.iload_n 2, 1) := by decide +kernel
theorem dX4_childWithLabelLike_35 : decode cX4_childWithLabelLike 35 = .ok (.invokestatic 148, 3) := by decide +kernel
theorem dX4_childWithLabelLike_38 : decode cX4_childWithLabelLike 38 = .ok (.ifCond .eq 6, 3) := by decide +kernel
theorem dX4_childWithLabelLike_41 : decode cX4_childWithLabelLike 41 = .ok (.iload 4, 2) := by decide +kernel
theorem dX4_childWithLabelLike_43 : decode cX4_childWithLabelLike 43 = .ok (.ireturn, 1) := by decide +kernel
theorem dX4_childWithLabelLike_44 : decode cX4_childWithLabelLike 44 = .ok (.iinc 4 1, 3) := by decide +kernel
theorem dX4_childWithLabelLike_47 : decode cX4_childWithLabelLike 47 = .ok (.goto (-44), 3) := by decide +kernel
theorem dX4_childWithLabelLike_50 : decode cX4_childWithLabelLike 50 = .ok (.iconst (-1), 1) := by decide +kernel
theorem dX4_childWithLabelLike_51 : decode cX4_childWithLabelLike 51 = .ok (.ireturn, 1) := by decide +kernel
theorem dX4_areLike_0 : decode cX4_areLike 0 = .ok (.iload_n 0, 1) := by decide +kernel
theorem dX4_areLike_1 : decode cX4_areLike 1 = .ok (.iconst (-1), 1) := by decide +kernel
theorem dX4_areLike_2 : decode cX4_areLike 2 = .ok (.if_icmp .eq 23, 3) := by decide +kernel
theorem dX4_areLike_5 : decode cX4_areLike 5 = .ok (.iload_n 1, 1) := by decide +kernel
theorem dX4_areLike_6 : decode cX4_areLike 6 = .ok (.iconst (-1), 1) := by decide +kernel
theorem dX4_areLike_7 : decode cX4_areLike 7 = .ok (.if_icmp .eq 18, 3) := by decide +kernel
theorem dX4_areLike_10 : decode cX4_areLike 10 = .ok (.iload_n 0, 1) := by decide +kernel
theorem dX4_areLike_11 : decode cX4_areLike 11 = .ok (.bipush 50, 2) := by decide +kernel
theorem dX4_areLike_13 : decode cX4_areLike 13 = .ok (.irem, 1) := by decide +kernel
theorem dX4_areLike_14 : decode cX4_areLike 14 = .ok (.iload_n 1, 1) := by decide +kernel
theorem dX4_areLike_15 : decode cX4_areLike 15 = .ok (.bipush 50, 2) := by decide +kernel
theorem dX4_areLike_17 : decode cX4_areLike 17 = .ok (.irem, 1) := by decide +kernel
theorem dX4_areLike_18 : decode cX4_areLike 18 = .ok (.if_icmp .ne 7, 3) := by decide +kernel
theorem dX4_areLike_21 : decode cX4_areLike 21 = .ok (.iconst 1, 1) := by decide +kernel
theorem dX4_areLike_22 : decode cX4_areLike 22 = .ok (.goto 4, 3) := by decide +kernel
theorem dX4_areLike_25 : decode cX4_areLike 25 = .ok (.iconst 0, 1) := by decide +kernel
theorem dX4_areLike_26 : decode cX4_areLike 26 = .ok (.ireturn, 1) := by decide +kernel
set_option maxRecDepth 20000 in
theorem ggX4_isSameAs_X4_hasSameEntry : GoodIn wsX4_isSameAs wsX4_hasSameEntry := goodIn_r _ [6, 7, 8, 9, 10, 5, 11, 12, 13, 14, 15, 16, 17, 18, 19, 20, 21, 22, 23, 24, 25, 26, 27, 28, 29, 30, 31, 32, 33, 34, 35, 36] (by decide +kernel) (by decide +kernel)
set_option maxRecDepth 20000 in
theorem gX4_isSameAs_X4_hasSameEntry : GoodIn wsX4_isSameAs (wsV RX4 151 RX4 yX4_hasSameEntry wsX4_hasSameEntry) := goodIn_app (goodIn_of _ (by decide +kernel)) ggX4_isSameAs_X4_hasSameEntry
theorem dX4_isSameAs_0 : decode cX4_isSameAs 0 = .ok (.iconst 0, 1) := by decide +kernel
theorem dX4_isSameAs_1 : decode cX4_isSameAs 1 = .ok (.istore_n 2, 1) := by decide +kernel
theorem dX4_isSameAs_2 : decode cX4_isSameAs 2 = .ok (.iload_n 2, 1) := by decide +kernel
theorem dX4_isSameAs_3 : decode cX4_isSameAs 3 = .ok (.bipush 42, 2) := by decide +kernel
theorem dX4_isSameAs_5 : decode cX4_isSameAs 5 = .ok (.if_icmp .ge 46, 3) := by decide +kernel
theorem dX4_isSameAs_8 : decode cX4_isSameAs 8 = .ok (.aload_n 0, 1) := by decide +kernel
theorem dX4_isSameAs_9 : decode cX4_isSameAs 9 = .ok (.getfield 15, 3) := by decide +kernel
theorem dX4_isSameAs_12 : decode cX4_isSameAs 12 = .ok (.iload_n 2, 1) := by decide +kernel
theorem dX4_isSameAs_13 : decode cX4_isSameAs 13 = .ok (.baload, 1) := by decide +kernel
theorem dX4_isSameAs_14 : decode cX4_isSameAs 14 = .ok (.aload_n 1, 1) := by decide +kernel
theorem dX4_isSameAs_15 : decode cX4_isSameAs 15 = .ok (.getfield 15, 3) := by decide +kernel
theorem dX4_isSameAs_18 : decode cX4_isSameAs 18 = .ok (.iload_n 2, 1) := by decide +kernel
theorem dX4_isSameAs_19 : decode cX4_isSameAs 19 = .ok (.baload, 1) := by decide +kernel
theorem dX4_isSameAs_20 : decode cX4_isSameAs 20 = .ok (.if_icmp .eq 5, 3) := by decide +kernel
theorem dX4_isSameAs_23 : decode cX4_isSameAs 23 = .ok (.iconst 0, 1) := by decide +kernel
theorem dX4_isSameAs_24 : decode cX4_isSameAs 24 = .ok (.ireturn, 1) := by decide +kernel
theorem dX4_isSameAs_25 : decode cX4_isSameAs 25 = .ok (.aload_n 0, 1) := by decide +kernel
theorem dX4_isSameAs_26 : decode cX4_isSameAs 26 = .ok (.getfield 15, 3) := by decide +kernel
theorem dX4_isSameAs_29 : decode cX4_isSameAs 29 = .ok (.iload_n 2, 1) := by decide +kernel
theorem dX4_isSameAs_30 : decode cX4_isSameAs 30 = .ok (.baload, 1) := by decide +kernel
theorem dX4_isSameAs_31 : decode cX4_isSameAs 31 = .ok (.ifCond .eq 14, 3) := by decide +kernel
theorem dX4_isSameAs_34 : decode cX4_isSameAs 34 = .ok (.aload_n 0, 1) := by decide +kernel
theorem dX4_isSameAs_35 : decode cX4_isSameAs 35 = .ok (.aload_n 1, 1) := by decide +kernel
theorem dX4_isSameAs_36 : decode cX4_isSameAs 36 = .ok (.iload_n 2, 1) := by decide +kernel
theorem dX4_isSameAs_37 : decode cX4_isSameAs 37 = .ok (.invokevirtual 151, 3) := by decide +kernel
theorem dX4_isSameAs_40 : decode cX4_isSameAs 40 = .ok (.ifCond .ne 5, 3) := by decide +kernel
theorem dX4_isSameAs_43 : decode cX4_isSameAs 43 = .ok (.iconst 0, 1) := by decide +kernel
theorem dX4_isSameAs_44 : decode cX4_isSameAs 44 = .ok (.ireturn, 1) := by decide +kernel
theorem dX4_isSameAs_45 : decode cX4_isSameAs 45 = .ok (.iinc 2 1, 3) := by decide +kernel
theorem dX4_isSameAs_48 : decode cX4_isSameAs 48 = .ok (.goto (-46), 3) := by decide +kernel
theorem dX4_isSameAs_51 : decode cX4_isSameAs 51 = .ok (.iconst 1, 1) := by decide +kernel
theorem dX4_isSameAs_52 : decode cX4_isSameAs 52 = .ok (.ireturn, 1) := by decide +kernel
set_option maxRecDepth 20000 in
theorem ggX4_hasSameEntry_X4_valueAt : GoodIn wsX4_hasSameEntry wsX4_valueAt := goodIn_r _ [6, 7, 8, 9, 10, 21, 22, 23, 24, 25, 26, 27, 28, 29, 30, 31] (by decide +kernel) (by decide +kernel)
set_option maxRecDepth 20000 in
theorem gX4_hasSameEntry_X4_valueAt : GoodIn wsX4_hasSameEntry (wsV RX4 142 RX4 yX4_valueAt wsX4_valueAt) := goodIn_app (goodIn_of _ (by decide +kernel)) ggX4_hasSameEntry_X4_valueAt
set_option maxRecDepth 20000 in
theorem ggX4_hasSameEntry_X4_parentAt : GoodIn wsX4_hasSameEntry wsX4_parentAt := goodIn_r _ [14, 15, 8, 9, 10, 21, 22, 23, 24, 25, 26, 27, 28, 29, 30, 31] (by decide +kernel) (by decide +kernel)
set_option maxRecDepth 20000 in
theorem gX4_hasSameEntry_X4_parentAt : GoodIn wsX4_hasSameEntry (wsV RX4 145 RX4 yX4_parentAt wsX4_parentAt) := goodIn_app (goodIn_of _ (by decide +kernel)) ggX4_hasSameEntry_X4_parentAt
set_option maxRecDepth 20000 in
theorem ggX4_hasSameEntry_X4_labelAt : GoodIn wsX4_hasSameEntry wsX4_labelAt := goodIn_r _ [19, 20, 8, 9, 10, 21, 22, 23, 24, 25, 26, 27, 28, 29, 30, 31] (by decide +kernel) (by decide +kernel)
set_option maxRecDepth 20000 in
theorem gX4_hasSameEntry_X4_labelAt : GoodIn wsX4_hasSameEntry (wsV RX4 155 RX4 yX4_labelAt wsX4_labelAt) := goodIn_app (goodIn_of _ (by decide +kernel)) ggX4_hasSameEntry_X4_labelAt
set_option maxRecDepth 20000 in
theorem ggX4_hasSameEntry_X5_at : GoodIn wsX4_hasSameEntry wsX5_at := goodIn_r _ [10] (by decide +kernel) (by decide +kernel)
set_option maxRecDepth 20000 in
theorem gX4_hasSameEntry_X5_at_n58 : GoodIn wsX4_hasSameEntry (wsX5_at) := ggX4_hasSameEntry_X5_at
theorem dX4_hasSameEntry_0 : decode cX4_hasSameEntry 0 = .ok (.iconst 0, 1) := by decide +kernel
theorem dX4_hasSameEntry_1 : decode cX4_hasSameEntry 1 = .ok (.istore_n 3, 1) := by decide +kernel
theorem dX4_hasSameEntry_2 : decode cX4_hasSameEntry 2 = .ok (.iload_n 3, 1) := by decide +kernel
theorem dX4_hasSameEntry_3 : decode cX4_hasSameEntry 3 = .ok (.iconst 4, 1) := by decide +kernel
theorem dX4_hasSameEntry_4 : decode cX4_hasSameEntry 4 = .ok (.if_icmp .ge 26, 3) := by decide +kernel
theorem dX4_hasSameEntry_7 : decode cX4_hasSameEntry 7 = .ok (.aload_n 0, 1) := by decide +kernel
theorem dX4_hasSameEntry_8 : decode cX4_hasSameEntry 8 = .ok (.iload_n 2, 1) := by decide +kernel
theorem dX4_hasSameEntry_9 : decode cX4_hasSameEntry 9 = .ok (.iload_n 3, 1) := by decide +kernel
theorem dX4_hasSameEntry_10 : decode cX4_hasSameEntry 10 = .ok (.invokevirtual 142, 3) := by decide +kernel
theorem dX4_hasSameEntry_13 : decode cX4_hasSameEntry 13 = .ok (.aload_n 1, 1) := by decide +kernel
theorem dX4_hasSameEntry_14 : decode cX4_hasSameEntry 14 = .ok (.iload_n 2, 1) := by decide +kernel
theorem dX4_hasSameEntry_15 : decode cX4_hasSameEntry 15 = .ok (.iload_n 3, 1) := by decide +kernel
theorem dX4_hasSameEntry_16 : decode cX4_hasSameEntry 16 = .ok (.invokevirtual 142, 3) := by decide +kernel
theorem dX4_hasSameEntry_19 : decode cX4_hasSameEntry 19 = .ok (.if_icmp .eq 5, 3) := by decide +kernel
theorem dX4_hasSameEntry_22 : decode cX4_hasSameEntry 22 = .ok (.iconst 0, 1) := by decide +kernel
theorem dX4_hasSameEntry_23 : decode cX4_hasSameEntry 23 = .ok (.ireturn, 1) := by decide +kernel
theorem dX4_hasSameEntry_24 : decode cX4_hasSameEntry 24 = .ok (.iinc 3 1, 3) := by decide +kernel
theorem dX4_hasSameEntry_27 : decode cX4_hasSameEntry 27 = .ok (.goto (-25), 3) := by decide +kernel
theorem dX4_hasSameEntry_30 : decode cX4_hasSameEntry 30 = .ok (.aload_n 0, 1) := by decide +kernel
theorem dX4_hasSameEntry_31 : decode cX4_hasSameEntry 31 = .ok (.iload_n 2, 1) := by decide +kernel
theorem dX4_hasSameEntry_32 : decode cX4_hasSameEntry 32 = .ok (.invokevirtual 145, 3) := by decide +kernel
theorem dX4_hasSameEntry_35 : decode cX4_hasSameEntry 35 = .ok (.aload_n 1, 1) := by decide +kernel
theorem dX4_hasSameEntry_36 : decode cX4_hasSameEntry 36 = .ok (.iload_n 2, 1) := by decide +kernel
theorem dX4_hasSameEntry_37 : decode cX4_hasSameEntry 37 = .ok (.invokevirtual 145, 3) := by decide +kernel
theorem dX4_hasSameEntry_40 : decode cX4_hasSameEntry 40 = .ok (.if_icmp .ne 39, 3) := by decide +kernel
theorem dX4_hasSameEntry_43 : decode cX4_hasSameEntry 43 = .ok (.aload_n 0, 1) := by decide +kernel
theorem dX4_hasSameEntry_44 : decode cX4_hasSameEntry 44 = .ok (.iload_n 2, 1) := by decide +kernel
theorem dX4_hasSameEntry_45 : decode cX4_hasSameEntry 45 = .ok (.invokevirtual 155, 3) := by decide +kernel
theorem dX4_hasSameEntry_48 : decode cX4_hasSameEntry 48 = .ok (.aload_n 1, 1) := by decide +kernel
theorem dX4_hasSameEntry_49 : decode cX4_hasSameEntry 49 = .ok (.iload_n 2, 1) := by decide +kernel
theorem dX4_hasSameEntry_50 : decode cX4_hasSameEntry 50 = .ok (.invokevirtual 155, 3) := by decide +kernel
theorem dX4_hasSameEntry_53 : decode cX4_hasSameEntry 53 = .ok (.if_icmp .ne 26, 3) := by decide +kernel
theorem dX4_hasSameEntry_56 : decode cX4_hasSameEntry 56 = .ok (.aload_n 0, 1) := by decide +kernel
theorem dX4_hasSameEntry_57 : decode cX4_hasSameEntry 57 = .ok (.getfield 25, 3) := by decide +kernel
theorem dX4_hasSameEntry_60 : decode cX4_hasSameEntry 60 = .ok (.iload_n 2, 1) := by decide +kernel
theorem dX4_hasSameEntry_61 : decode cX4_hasSameEntry 61 = .ok (.invokestatic 58, 3) := by decide +kernel
theorem dX4_hasSameEntry_64 : decode cX4_hasSameEntry 64 = .ok (.aload_n 1, 1) := by decide +kernel
theorem dX4_hasSameEntry_65 : decode cX4_hasSameEntry 65 = .ok (.getfield 25, 3) := by decide +kernel
theorem dX4_hasSameEntry_68 : decode cX4_hasSameEntry 68 = .ok (.iload_n 2, 1) := by decide +kernel
theorem dX4_hasSameEntry_69 : decode cX4_hasSameEntry 69 = .ok (.invokestatic 58, 3) := by decide +kernel
theorem dX4_hasSameEntry_72 : decode cX4_hasSameEntry 72 = .ok (.if_icmp .ne 7, 3) := by decide +kernel
theorem dX4_hasSameEntry_75 : decode cX4_hasSameEntry 75 = .ok (.iconst 1, 1) := by decide +kernel
theorem dX4_hasSameEntry_76 : decode cX4_hasSameEntry 76 = .ok (.goto 4, 3) := by decide +kernel
theorem dX4_hasSameEntry_79 : decode cX4_hasSameEntry 79 = .ok (.iconst 0, 1) := by decide +kernel
theorem dX4_hasSameEntry_80 : decode cX4_hasSameEntry 80 = .ok (.ireturn, 1) := by decide +kernel
set_option maxRecDepth 20000 in
theorem ggX4_orderUnderParent_X4_labelAt : GoodIn wsX4_orderUnderParent wsX4_labelAt := goodIn_r _ [5, 6, 7, 8, 9, 10, 11, 12, 13, 14, 15, 16, 17, 18, 19, 20] (by decide +kernel) (by decide +kernel)
set_option maxRecDepth 20000 in
theorem gX4_orderUnderParent_X4_labelAt : GoodIn wsX4_orderUnderParent (wsV RX4 155 RX4 yX4_labelAt wsX4_labelAt) := goodIn_app (goodIn_of _ (by decide +kernel)) ggX4_orderUnderParent_X4_labelAt
theorem dX4_orderUnderParent_0 : decode cX4_orderUnderParent 0 = .ok (.aload_n 0, 1) := by decide +kernel
theorem dX4_orderUnderParent_1 : decode cX4_orderUnderParent 1 = .ok (.iload_n 1, 1) := by decide +kernel
theorem dX4_orderUnderParent_2 : decode cX4_orderUnderParent 2 = .ok (.invokevirtual 155, 3) := by decide +kernel
theorem dX4_orderUnderParent_5 : decode cX4_orderUnderParent 5 = .ok (.istore_n 2, 1) := by decide +kernel
theorem dX4_orderUnderParent_6 : decode cX4_orderUnderParent 6 = .ok (.iload_n 2, 1) := by decide +kernel
theorem dX4_orderUnderParent_7 : decode cX4_orderUnderParent 7 = .ok (.iconst (-1), 1) := by decide +kernel
theorem dX4_orderUnderParent_8 : decode cX4_orderUnderParent 8 = .ok (.if_icmp .eq 7, 3) := by decide +kernel
theorem dX4_orderUnderParent_11 : decode cX4_orderUnderParent 11 = .ok (.iload_n 2, 1) := by decide +kernel
theorem dX4_orderUnderParent_12 : decode cX4_orderUnderParent 12 = .ok (.goto 7, 3) := by decide +kernel
theorem dX4_orderUnderParent_15 : decode cX4_orderUnderParent 15 = .ok (.bipush 100, 2) := by decide +kernel
theorem dX4_orderUnderParent_17 : decode cX4_orderUnderParent 17 = .ok (.iload_n 1, 1) := by decide +kernel
theorem dX4_orderUnderParent_18 : decode cX4_orderUnderParent 18 = .ok (.iadd, 1) := by decide +kernel
theorem dX4_orderUnderParent_19 : decode cX4_orderUnderParent 19 = .ok (.ireturn, 1) := by decide +kernel
set_option maxRecDepth 20000 in
theorem ggX4_childAfter_X3_isReferral : GoodIn wsX4_childAfter wsX3_isReferral := goodIn_r _ [6, 7, 32, 33] (by decide +kernel) (by decide +kernel)
set_option maxRecDepth 20000 in
theorem gX4_childAfter_X3_isReferral : GoodIn wsX4_childAfter (wsV RX4 158 RX3 yX3_isReferral wsX3_isReferral) := goodIn_app (goodIn_of _ (by decide +kernel)) ggX4_childAfter_X3_isReferral
set_option maxRecDepth 20000 in
theorem ggX4_childAfter_X4_orderUnderParent : GoodIn wsX4_childAfter wsX4_orderUnderParent := goodIn_r _ [12, 13, 14, 15, 11, 16, 17, 18, 19, 20, 21, 22, 23, 24, 25, 26, 27, 28, 29, 30, 31] (by decide +kernel) (by decide +kernel)
set_option maxRecDepth 20000 in
theorem gX4_childAfter_X4_orderUnderParent : GoodIn wsX4_childAfter (wsV RX4 163 RX4 yX4_orderUnderParent wsX4_orderUnderParent) := goodIn_app (goodIn_of _ (by decide +kernel)) ggX4_childAfter_X4_orderUnderParent
theorem dX4_childAfter_0 : decode cX4_childAfter 0 = .ok (.iconst (-1), 1) := by decide +kernel
theorem dX4_childAfter_1 : decode cX4_childAfter 1 = .ok (.istore 4, 2) := by decide +kernel
theorem dX4_childAfter_3 : decode cX4_childAfter 3 = .ok (.iconst 0, 1) := by decide +kernel
theorem dX4_childAfter_4 : decode cX4_childAfter 4 = .ok (.istore 5, 2) := by decide +kernel
theorem dX4_childAfter_6 : decode cX4_childAfter 6 = .ok (.iload 5, 2) := by decide +kernel
theorem dX4_childAfter_8 : decode cX4_childAfter 8 = .ok (.bipush 42, 2) := by decide +kernel
theorem dX4_childAfter_10 : decode cX4_childAfter 10 = .ok (.if_icmp .ge 64, 3) := by decide +kernel
theorem dX4_childAfter_13 : decode cX4_childAfter 13 = .ok (.aload_n 0, 1) := by decide +kernel
theorem dX4_childAfter_14 : decode cX4_childAfter 14 = .ok (.getfield 19, 3) := by decide +kernel
theorem dX4_childAfter_17 : decode cX4_childAfter 17 = .ok (.iload 5, 2) := by decide +kernel
theorem dX4_childAfter_19 : decode cX4_childAfter 19 = .ok (.iaload, 1) := by decide +kernel
theorem dX4_childAfter_20 : decode cX4_childAfter 20 = .ok (.iload_n 1, 1) := by decide +kernel
theorem dX4_childAfter_21 : decode cX4_childAfter 21 = .ok (.if_icmp .ne 47, 3) := by decide +kernel
theorem dX4_childAfter_24 : decode cX4_childAfter 24 = .ok (.aload_n 3, 1) := by decide +kernel
theorem dX4_childAfter_25 : decode cX4_childAfter 25 = .ok (.iload 5, 2) := by decide +kernel
theorem dX4_childAfter_27 : decode cX4_childAfter 27 = .ok (.invokevirtual 158, 3) := by decide +kernel
theorem dX4_childAfter_30 : decode cX4_childAfter 30 = .ok (.ifCond .ne 38, 3) := by decide +kernel
theorem dX4_childAfter_33 : decode cX4_childAfter 33 = .ok (.aload_n 0, 1) := by decide +kernel
theorem dX4_childAfter_34 : decode cX4_childAfter 34 = .ok (.iload 5, 2) := by decide +kernel
theorem dX4_childAfter_36 : decode cX4_childAfter 36 = .ok (.invokevirtual 163, 3) := by decide +kernel
theorem dX4_childAfter_39 : decode cX4_childAfter 39 = .ok (.iload_n 2, 1) := by decide +kernel
theorem dX4_childAfter_40 : decode cX4_childAfter 40 = .ok (.if_icmp .le 28, 3) := by decide +kernel
theorem dX4_childAfter_43 : decode cX4_childAfter 43 = .ok (.iload 4, 2) := by decide +kernel
theorem dX4_childAfter_45 : decode cX4_childAfter 45 = .ok (.iconst (-1), 1) := by decide +kernel
theorem dX4_childAfter_46 : decode cX4_childAfter 46 = .ok (.if_icmp .eq 18, 3) := by decide +kernel
theorem dX4_childAfter_49 : decode cX4_childAfter 49 = .ok (.aload_n 0, 1) := by decide +kernel
theorem dX4_childAfter_50 : decode cX4_childAfter 50 = .ok (.iload 5, 2) := by decide +kernel
theorem dX4_childAfter_52 : decode cX4_childAfter 52 = .ok (.invokevirtual 163, 3) := by decide +kernel
theorem dX4_childAfter_55 : decode cX4_childAfter 55 = .ok (.aload_n 0, 1) := by decide +kernel
theorem dX4_childAfter_56 : decode cX4_childAfter 56 = .ok (.iload 4, 2) := by decide +kernel
theorem dX4_childAfter_58 : decode cX4_childAfter 58 = .ok (.invokevirtual 163, 3) := by decide +kernel
theorem dX4_childAfter_61 : decode cX4_childAfter 61 = .ok (.if_icmp .ge 7, 3) := by decide +kernel
theorem dX4_childAfter_64 : decode cX4_childAfter 64 = .ok (.iload 5, 2) := by decide +kernel
theorem dX4_childAfter_66 : decode cX4_childAfter 66 = .ok (.istore 4, 2) := by decide +kernel
theorem dX4_childAfter_68 : decode cX4_childAfter 68 = .ok (.iinc 5 1, 3) := by decide +kernel
theorem dX4_childAfter_71 : decode cX4_childAfter 71 = .ok (.goto (-65), 3) := by decide +kernel
theorem dX4_childAfter_74 : decode cX4_childAfter 74 = .ok (.iload 4, 2) := by decide +kernel
theorem dX4_childAfter_76 : decode cX4_childAfter 76 = .ok (.ireturn, 1) := by decide +kernel
set_option maxRecDepth 20000 in
theorem ggX4_entryAfter_X4_childAfter : GoodIn wsX4_entryAfter wsX4_childAfter := goodIn_r _ [5, 6, 7, 8, 9, 10, 11, 12, 13, 14, 15, 4, 16, 17, 18, 19, 20, 21, 22, 23, 24, 29, 30, 31, 32, 33, 34, 35, 36, 37, 38, 39, 40, 41] (by decide +kernel) (by decide +kernel)
set_option maxRecDepth 20000 in
theorem gX4_entryAfter_X4_childAfter : GoodIn wsX4_entryAfter (wsV RX4 166 RX4 yX4_childAfter wsX4_childAfter) := goodIn_app (goodIn_of _ (by decide +kernel)) ggX4_entryAfter_X4_childAfter
set_option maxRecDepth 20000 in
theorem ggX4_entryAfter_X4_parentAt : GoodIn wsX4_entryAfter wsX4_parentAt := goodIn_r _ [28, 6, 22, 23, 24, 29, 30, 31, 32, 33, 34, 35, 36, 37, 38, 39] (by decide +kernel) (by decide +kernel)
set_option maxRecDepth 20000 in
theorem gX4_entryAfter_X4_parentAt : GoodIn wsX4_entryAfter (wsV RX4 145 RX4 yX4_parentAt wsX4_parentAt) := goodIn_app (goodIn_of _ (by decide +kernel)) ggX4_entryAfter_X4_parentAt
set_option maxRecDepth 20000 in
theorem ggX4_entryAfter_X4_orderUnderParent : GoodIn wsX4_entryAfter wsX4_orderUnderParent := goodIn_r _ [16, 17, 18, 19, 4, 20, 21, 22, 23, 24, 29, 30, 31, 32, 33, 34, 35, 36, 37, 38, 39] (by decide +kernel) (by decide +kernel)
set_option maxRecDepth 20000 in
theorem gX4_entryAfter_X4_orderUnderParent : GoodIn wsX4_entryAfter (wsV RX4 163 RX4 yX4_orderUnderParent wsX4_orderUnderParent) := goodIn_app (goodIn_of _ (by decide +kernel)) ggX4_entryAfter_X4_orderUnderParent
theorem dX4_entryAfter_0 : decode cX4_entryAfter 0 = .ok (.aload_n 0, 1) := by decide +kernel
theorem dX4_entryAfter_1 : decode cX4_entryAfter 1 = .ok (.iload_n 1, 1) := by decide +kernel
theorem dX4_entryAfter_2 : decode cX4_entryAfter 2 = .ok (.iconst (-1), 1) := by decide +kernel
theorem dX4_entryAfter_3 : decode cX4_entryAfter 3 = .ok (.aload_n 3, 1) := by decide +kernel
theorem dX4_entryAfter_4 : decode cX4_entryAfter 4 = .ok (.invokevirtual 166, 3) := by decide +kernel
theorem dX4_entryAfter_7 : decode cX4_entryAfter 7 = .ok (.istore 4, 2) := by decide +kernel
theorem dX4_entryAfter_9 : decode cX4_entryAfter 9 = .ok (.iload 4, 2) := by decide +kernel
theorem dX4_entryAfter_11 : decode cX4_entryAfter 11 = .ok (.iconst (-1), 1) := by decide +kernel
theorem dX4_entryAfter_12 : decode cX4_entryAfter 12 = .ok (.if_icmp .eq 6, 3) := by decide +kernel
theorem dX4_entryAfter_15 : decode cX4_entryAfter 15 = .ok (.iload 4, 2) := by decide +kernel
theorem dX4_entryAfter_17 : decode cX4_entryAfter 17 = .ok (.ireturn, 1) := by decide +kernel
theorem dX4_entryAfter_18 : decode cX4_entryAfter 18 = .ok (.iload_n 1, 1) := by decide +kernel
theorem dX4_entryAfter_19 : decode cX4_entryAfter 19 = .ok (.istore 5, 2) := by decide +kernel
theorem dX4_entryAfter_21 : decode cX4_entryAfter 21 = .ok (.iconst 0, 1) := by decide +kernel
theorem dX4_entryAfter_22 : decode cX4_entryAfter 22 = .ok (.istore 6, 2) := by decide +kernel
theorem dX4_entryAfter_24 : decode cX4_entryAfter 24 = .ok (.iload 6, 2) := by decide +kernel
theorem dX4_entryAfter_26 : decode cX4_entryAfter 26 = .ok (.bipush 42, 2) := by decide +kernel
theorem dX4_entryAfter_28 : decode cX4_entryAfter 28 = .ok (.if_icmp .ge 57, 3) := by decide +kernel
theorem dX4_entryAfter_31 : decode cX4_entryAfter 31 = .ok (.iload 5, 2) := by decide +kernel
theorem dX4_entryAfter_33 : decode cX4_entryAfter 33 = .ok (.iload_n 2, 1) := by decide +kernel
theorem dX4_entryAfter_34 : decode cX4_entryAfter 34 = .ok (.if_icmp .eq 51, 3) := by decide +kernel
theorem dX4_entryAfter_37 : decode cX4_entryAfter 37 = .ok (.iload 5, 2) := by decide +kernel
theorem dX4_entryAfter_39 : decode cX4_entryAfter 39 = .ok (.iconst (-1), 1) := by decide +kernel
theorem dX4_entryAfter_40 : decode cX4_entryAfter 40 = .ok (.if_icmp .eq 45, 3) := by decide +kernel
theorem dX4_entryAfter_43 : decode cX4_entryAfter 43 = .ok (.aload_n 0, 1) := by decide +kernel
theorem dX4_entryAfter_44 : decode cX4_entryAfter 44 = .ok (.aload_n 0, 1) := by decide +kernel
theorem dX4_entryAfter_45 : decode cX4_entryAfter 45 = .ok (.iload 5, 2) := by decide +kernel
theorem dX4_entryAfter_47 : decode cX4_entryAfter 47 = .ok (.invokevirtual 145, 3) := by decide +kernel
theorem dX4_entryAfter_50 : decode cX4_entryAfter 50 = .ok (.aload_n 0, 1) := by decide +kernel
theorem dX4_entryAfter_51 : decode cX4_entryAfter 51 = .ok (.iload 5, 2) := by decide +kernel
theorem dX4_entryAfter_53 : decode cX4_entryAfter 53 = .ok (.invokevirtual 163, 3) := by decide +kernel
theorem dX4_entryAfter_56 : decode cX4_entryAfter 56 = .ok (.aload_n 3, 1) := by decide +kernel
theorem dX4_entryAfter_57 : decode cX4_entryAfter 57 = .ok (.invokevirtual 166, 3) := by decide +kernel
theorem dX4_entryAfter_60 : decode cX4_entryAfter 60 = .ok (.istore 7, 2) := by decide +kernel
theorem dX4_entryAfter_62 : decode cX4_entryAfter 62 = .ok (.iload 7, 2) := by decide +kernel
theorem dX4_entryAfter_64 : decode cX4_entryAfter 64 = .ok (.iconst (-1), 1) := by decide +kernel
theorem dX4_entryAfter_65 : decode cX4_entryAfter 65 = .ok (.if_icmp .eq 6, 3) := by decide +kernel
theorem dX4_entryAfter_68 : decode cX4_entryAfter 68 = .ok (.iload 7, 2) := by decide +kernel
theorem dX4_entryAfter_70 : decode cX4_entryAfter 70 = .ok (.ireturn, 1) := by decide +kernel
theorem dX4_entryAfter_71 : decode cX4_entryAfter 71 = .ok (.aload_n 0, 1) := by decide +kernel
theorem dX4_entryAfter_72 : decode cX4_entryAfter 72 = .ok (.iload 5, 2) := by decide +kernel
theorem dX4_entryAfter_74 : decode cX4_entryAfter 74 = .ok (.invokevirtual 145, 3) := by decide +kernel
theorem dX4_entryAfter_77 : decode cX4_entryAfter 77 = .ok (.istore 5, 2) := by decide +kernel
theorem dX4_entryAfter_79 : decode cX4_entryAfter 79 = .ok (.iinc 6 1, 3) := by decide +kernel
theorem dX4_entryAfter_82 : decode cX4_entryAfter 82 = .ok (.goto (-58), 3) := by decide +kernel
theorem dX4_entryAfter_85 : decode cX4_entryAfter 85 = .ok (.iconst (-1), 1) := by decide +kernel
theorem dX4_entryAfter_86 : decode cX4_entryAfter 86 = .ok (.ireturn, 1) := by decide +kernel
theorem dJ7_fill_53178_0 : decode cJ7_fill_53178 0 = .ok (.iconst 0, 1) := by decide +kernel
theorem dJ7_fill_53178_1 : decode cJ7_fill_53178 1 = .ok (.istore_n 2, 1) := by decide +kernel
theorem dJ7_fill_53178_2 : decode cJ7_fill_53178 2 = .ok (.aload_n 0, 1) := by decide +kernel
theorem dJ7_fill_53178_3 : decode cJ7_fill_53178 3 = .ok (.arraylength, 1) := by decide +kernel
theorem dJ7_fill_53178_4 : decode cJ7_fill_53178 4 = .ok (.istore_n 3, 1) := by decide +kernel
theorem dJ7_fill_53178_5 : decode cJ7_fill_53178 5 = .ok (.iload_n 2, 1) := by decide +kernel
theorem dJ7_fill_53178_6 : decode cJ7_fill_53178 6 = .ok (.iload_n 3, 1) := by decide +kernel
theorem dJ7_fill_53178_7 : decode cJ7_fill_53178 7 = .ok (.if_icmp .ge 13, 3) := by decide +kernel
theorem dJ7_fill_53178_10 : decode cJ7_fill_53178 10 = .ok (.aload_n 0, 1) := by decide +kernel
theorem dJ7_fill_53178_11 : decode cJ7_fill_53178 11 = .ok (.iload_n 2, 1) := by decide +kernel
theorem dJ7_fill_53178_12 : decode cJ7_fill_53178 12 = .ok (.iload_n 1, 1) := by decide +kernel
theorem dJ7_fill_53178_13 : decode cJ7_fill_53178 13 = .ok (.iastore, 1) := by decide +kernel
theorem dJ7_fill_53178_14 : decode cJ7_fill_53178 14 = .ok (.iinc 2 1, 3) := by decide +kernel
theorem dJ7_fill_53178_17 : decode cJ7_fill_53178 17 = .ok (.goto (-12), 3) := by decide +kernel
theorem dJ7_fill_53178_20 : decode cJ7_fill_53178 20 = .ok (.return_, 1) := by decide +kernel
end
section
set_option maxRecDepth 20000 in
theorem ggX5_init_X0_init : GoodIn wsX5_init wsX0_init := goodIn_r _ [27, 28, 2, 3, 29, 30, 31, 32, 33, 34, 35, 79, 80] (by decide +kernel) (by decide +kernel)
set_option maxRecDepth 20000 in
theorem gX5_init_X0_init : GoodIn wsX5_init (wsX0_init) := ggX5_init_X0_init
set_option maxRecDepth 20000 in
theorem ggX5_init_X2_init : GoodIn wsX5_init wsX2_init := goodIn_r _ [37, 38, 2, 3, 29, 39, 40, 41, 42, 43, 44, 87, 88, 89, 90, 91, 92, 93] (by decide +kernel) (by decide +kernel)
set_option maxRecDepth 20000 in
theorem gX5_init_X2_init_n18 : GoodIn wsX5_init (wsX2_init) := ggX5_init_X2_init
set_option maxRecDepth 20000 in
theorem ggX5_init_X4_init : GoodIn wsX5_init wsX4_init := goodIn_r _ [47, 48, 2, 3, 29, 49, 50, 51, 52, 53, 54, 55, 56, 57, 58, 59, 60, 61, 14, 62, 63, 64, 33, 34, 35, 94, 95, 96, 97, 98, 99, 100, 101, 102, 103, 104] (by decide +kernel) (by decide +kernel)
set_option maxRecDepth 20000 in
theorem gX5_init_X4_init : GoodIn wsX5_init (wsX4_init) := ggX5_init_X4_init
set_option maxRecDepth 20000 in
theorem ggX5_init_X3_init : GoodIn wsX5_init wsX3_init := goodIn_r _ [67, 68, 2, 3, 29, 69, 50, 70, 71, 33, 34, 35, 105, 106] (by decide +kernel) (by decide +kernel)
set_option maxRecDepth 20000 in
theorem gX5_init_X3_init : GoodIn wsX5_init (wsX3_init) := ggX5_init_X3_init
set_option maxRecDepth 20000 in
theorem ggX5_init_X1_init : GoodIn wsX5_init wsX1_init := goodIn_r _ [73, 74, 2, 3, 29, 75, 76, 77, 78, 107, 108, 109, 110, 111] (by decide +kernel) (by decide +kernel)
set_option maxRecDepth 20000 in
theorem gX5_init_X1_init_n44 : GoodIn wsX5_init (wsX1_init) := ggX5_init_X1_init
theorem dX5_init_0 : decode cX5_init 0 = .ok (.aload_n 0, 1) := by decide +kernel
theorem dX5_init_1 : decode cX5_init 1 = .ok (.invokespecial 3, 3) := by decide +kernel
theorem dX5_init_4 : decode cX5_init 4 = .ok (.aload_n 0, 1) := by decide +kernel
theorem dX5_init_5 : decode cX5_init 5 = .ok (.new 9, 3) := by decide +kernel
theorem dX5_init_8 : decode cX5_init 8 = .ok (.dup, 1) := by decide +kernel
theorem dX5_init_9 : decode cX5_init 9 = .ok (.invokespecial 11, 3) := by decide +kernel
theorem dX5_init_12 : decode cX5_init 12 = .ok (.putfield 12, 3) := by decide +kernel
theorem dX5_init_15 : decode cX5_init 15 = .ok (.aload_n 0, 1) := by decide +kernel
theorem dX5_init_16 : decode cX5_init 16 = .ok (.new 16, 3) := by decide +kernel
theorem dX5_init_19 : decode cX5_init 19 = .ok (.dup, 1) := by decide +kernel
theorem dX5_init_20 : decode cX5_init 20 = .ok (.invokespecial 18, 3) := by decide +kernel
theorem dX5_init_23 : decode cX5_init 23 = .ok (.putfield 19, 3) := by decide +kernel
theorem dX5_init_26 : decode cX5_init 26 = .ok (.aload_n 0, 1) := by decide +kernel
theorem dX5_init_27 : decode cX5_init 27 = .ok (.new 23, 3) := by decide +kernel
theorem dX5_init_30 : decode cX5_init 30 = .ok (.dup, 1) := by decide +kernel
theorem dX5_init_31 : decode cX5_init 31 = .ok (.iconst 0, 1) := by decide +kernel
theorem dX5_init_32 : decode cX5_init 32 = .ok (.aload_n 0, 1) := by decide +kernel
theorem dX5_init_33 : decode cX5_init 33 = .ok (.getfield 19, 3) := by decide +kernel
theorem dX5_init_36 : decode cX5_init 36 = .ok (.aload_n 0, 1) := by decide +kernel
theorem dX5_init_37 : decode cX5_init 37 = .ok (.getfield 12, 3) := by decide +kernel
theorem dX5_init_40 : decode cX5_init 40 = .ok (.invokespecial 25, 3) := by decide +kernel
theorem dX5_init_43 : decode cX5_init 43 = .ok (.putfield 28, 3) := by decide +kernel
theorem dX5_init_46 : decode cX5_init 46 = .ok (.aload_n 0, 1) := by decide +kernel
theorem dX5_init_47 : decode cX5_init 47 = .ok (.new 23, 3) := by decide +kernel
theorem dX5_init_50 : decode cX5_init 50 = .ok (.dup, 1) := by decide +kernel
theorem dX5_init_51 : decode cX5_init 51 = .ok (.iconst 1, 1) := by decide +kernel
theorem dX5_init_52 : decode cX5_init 52 = .ok (.aload_n 0, 1) := by decide +kernel
theorem dX5_init_53 : decode cX5_init 53 = .ok (.getfield 19, 3) := by decide +kernel
theorem dX5_init_56 : decode cX5_init 56 = .ok (.aload_n 0, 1) := by decide +kernel
theorem dX5_init_57 : decode cX5_init 57 = .ok (.getfield 12, 3) := by decide +kernel
theorem dX5_init_60 : decode cX5_init 60 = .ok (.invokespecial 25, 3) := by decide +kernel
theorem dX5_init_63 : decode cX5_init 63 = .ok (.putfield 32, 3) := by decide +kernel
theorem dX5_init_66 : decode cX5_init 66 = .ok (.aload_n 0, 1) := by decide +kernel
theorem dX5_init_67 : decode cX5_init 67 = .ok (.new 35, 3) := by decide +kernel
theorem dX5_init_70 : decode cX5_init 70 = .ok (.dup, 1) := by decide +kernel
theorem dX5_init_71 : decode cX5_init 71 = .ok (.invokespecial 37, 3) := by decide +kernel
theorem dX5_init_74 : decode cX5_init 74 = .ok (.putfield 38, 3) := by decide +kernel
theorem dX5_init_77 : decode cX5_init 77 = .ok (.aload_n 0, 1) := by decide +kernel
theorem dX5_init_78 : decode cX5_init 78 = .ok (.new 42, 3) := by decide +kernel
theorem dX5_init_81 : decode cX5_init 81 = .ok (.dup, 1) := by decide +kernel
theorem dX5_init_82 : decode cX5_init 82 = .ok (.invokespecial 44, 3) := by decide +kernel
theorem dX5_init_85 : decode cX5_init 85 = .ok (.putfield 45, 3) := by decide +kernel
theorem dX5_init_88 : decode cX5_init 88 = .ok (.return_, 1) := by decide +kernel
set_option maxRecDepth 20000 in
theorem ggX5_setClass_X5_checkIndex : GoodIn wsX5_setClass wsX5_checkIndex := goodIn_ca (goodIn_r _ [8, 9, 10] (by decide +kernel) (by decide +kernel)) (goodIn_sub (fun _ h => List.mem_cons_of_mem _ (List.mem_append_left _ (List.mem_append_right _ h))) (by decide +kernel))
set_option maxRecDepth 20000 in
theorem gX5_setClass_X5_checkIndex : GoodIn wsX5_setClass (va_wsS RX5 49 yX5_checkIndex wsX5_checkIndex) := goodIn_app (goodIn_of _ (by decide +kernel)) ggX5_setClass_X5_checkIndex
set_option maxRecDepth 20000 in
theorem ggX5_setClass_X5_checkArgument : GoodIn wsX5_setClass wsX5_checkArgument := goodIn_ca (goodIn_r _ [13, 14, 15] (by decide +kernel) (by decide +kernel)) (goodIn_sub (fun _ h => List.mem_cons_of_mem _ (List.mem_append_right _ h)) (by decide +kernel))
set_option maxRecDepth 20000 in
theorem gX5_setClass_X5_checkArgument : GoodIn wsX5_setClass (va_wsS RX5 53 yX5_checkArgument wsX5_checkArgument) := goodIn_app (goodIn_of _ (by decide +kernel)) ggX5_setClass_X5_checkArgument
set_option maxRecDepth 20000 in
theorem ggX5_setClass_X0_define : GoodIn wsX5_setClass wsX0_define := goodIn_r _ [20, 21, 22, 23, 7, 24, 38, 39] (by decide +kernel) (by decide +kernel)
set_option maxRecDepth 20000 in
theorem gX5_setClass_X0_define : GoodIn wsX5_setClass (wsV RX5 68 RX0 yX0_define wsX0_define) := goodIn_app (goodIn_of _ (by decide +kernel)) ggX5_setClass_X0_define
theorem dX5_setClass_0 : decode cX5_setClass 0 = .ok (.iload_n 1, 1) := by decide +kernel
theorem dX5_setClass_1 : decode cX5_setClass 1 = .ok (.iconst 3, 1) := by decide +kernel
theorem dX5_setClass_2 : decode cX5_setClass 2 = .ok (.invokestatic 49, 3) := by decide +kernel
theorem dX5_setClass_5 : decode cX5_setClass 5 = .ok (.iload_n 2, 1) := by decide +kernel
theorem dX5_setClass_6 : decode cX5_setClass 6 = .ok (.iconst 0, 1) := by decide +kernel
theorem dX5_setClass_7 : decode cX5_setClass 7 = .ok (.bipush 15, 2) := by decide +kernel
theorem dX5_setClass_9 : decode cX5_setClass 9 = .ok (.invokestatic 53, 3) := by decide +kernel
theorem dX5_setClass_12 : decode cX5_setClass 12 = .ok (.iload_n 3, 1) := by decide +kernel
theorem dX5_setClass_13 : decode cX5_setClass 13 = .ok (.iconst 0, 1) := by decide +kernel
theorem dX5_setClass_14 : decode cX5_setClass 14 = .ok (.bipush 15, 2) := by decide +kernel
theorem dX5_setClass_16 : decode cX5_setClass 16 = .ok (.invokestatic 53, 3) := by decide +kernel
theorem dX5_setClass_19 : decode cX5_setClass 19 = .ok (.aload_n 0, 1) := by decide +kernel
theorem dX5_setClass_20 : decode cX5_setClass 20 = .ok (.getfield 19, 3) := by decide +kernel
theorem dX5_setClass_23 : decode cX5_setClass 23 = .ok (.getfield 57, 3) := by decide +kernel
theorem dX5_setClass_26 : decode cX5_setClass 26 = .ok (.ifCond .le 13, 3) := by decide +kernel
theorem dX5_setClass_29 : decode cX5_setClass 29 = .ok (.new 61, 3) := by decide +kernel
theorem dX5_setClass_32 : decode cX5_setClass 32 = .ok (.dup, 1) := by decide +kernel
theorem dX5_setClass_33 : decode cX5_setClass 33 = .ok (.ldc 63, 2) := by decide +kernel
theorem dX5_setClass_35 : decode cX5_setClass 35 = .ok (.invokespecial 65, 3) := by decide +kernel
theorem dX5_setClass_38 : decode cX5_setClass 38 = .ok (.athrow, 1) := by decide +kernel
theorem dX5_setClass_39 : decode cX5_setClass 39 = .ok (.aload_n 0, 1) := by decide +kernel
theorem dX5_setClass_40 : decode cX5_setClass 40 = .ok (.getfield 12, 3) := by decide +kernel
theorem dX5_setClass_43 : decode cX5_setClass 43 = .ok (.iload_n 1, 1) := by decide +kernel
theorem dX5_setClass_44 : decode cX5_setClass 44 = .ok (.iload_n 2, 1) := by decide +kernel
theorem dX5_setClass_45 : decode cX5_setClass 45 = .ok (.iload_n 3, 1) := by decide +kernel
theorem dX5_setClass_46 : decode cX5_setClass 46 = .ok (.invokevirtual 68, 3) := by decide +kernel
theorem dX5_setClass_49 : decode cX5_setClass 49 = .ok (.return_, 1) := by decide +kernel
set_option maxRecDepth 20000 in
theorem ggX5_add_X5_treeOf : GoodIn wsX5_add wsX5_treeOf := goodIn_ca (goodIn_r _ [6, 7, 8, 9, 10, 5, 11, 12, 13, 148, 149, 150, 151, 152, 153] (by decide +kernel) (by decide +kernel)) (goodIn_sub (fun _ h => List.mem_cons_of_mem _ (List.mem_append_left _ (List.mem_append_left _ (List.mem_append_right _ h)))) (by decide +kernel))
set_option maxRecDepth 20000 in
theorem gX5_add_X5_treeOf : GoodIn wsX5_add (wsV RX5 71 RX5 yX5_treeOf wsX5_treeOf) := goodIn_app (goodIn_of _ (by decide +kernel)) ggX5_add_X5_treeOf
set_option maxRecDepth 20000 in
theorem ggX5_add_X5_checkEntry : GoodIn wsX5_add wsX5_checkEntry := goodIn_ca (goodIn_r _ [16, 12, 13, 17, 18, 19, 20, 21, 22, 161, 162, 163, 164, 165, 166, 167, 168, 169, 170, 171] (by decide +kernel) (by decide +kernel)) (goodIn_sub (fun _ h => List.mem_cons_of_mem _ (List.mem_append_left _ (List.mem_append_left _ (List.mem_append_right _ h)))) (by decide +kernel))
set_option maxRecDepth 20000 in
theorem gX5_add_X5_checkEntry : GoodIn wsX5_add (va_wsS RX5 75 yX5_checkEntry wsX5_checkEntry) := goodIn_app (goodIn_of _ (by decide +kernel)) ggX5_add_X5_checkEntry
set_option maxRecDepth 20000 in
theorem ggX5_add_X5_checkIndex : GoodIn wsX5_add wsX5_checkIndex := goodIn_ca (goodIn_r _ [11, 12, 13] (by decide +kernel) (by decide +kernel)) (goodIn_sub (fun _ h => List.mem_cons_of_mem _ (List.mem_append_left _ (List.mem_append_left _ (List.mem_append_right _ h)))) (by decide +kernel))
set_option maxRecDepth 20000 in
theorem gX5_add_X5_checkIndex : GoodIn wsX5_add (va_wsS RX5 49 yX5_checkIndex wsX5_checkIndex) := goodIn_app (goodIn_of _ (by decide +kernel)) ggX5_add_X5_checkIndex
set_option maxRecDepth 20000 in
theorem ggX5_add_X5_checkArgument : GoodIn wsX5_add wsX5_checkArgument := goodIn_ca (goodIn_r _ [25, 26, 27] (by decide +kernel) (by decide +kernel)) (goodIn_sub (fun _ h => List.mem_cons_of_mem _ (List.mem_append_left _ (List.mem_append_right _ h))) (by decide +kernel))
set_option maxRecDepth 20000 in
theorem gX5_add_X5_checkArgument : GoodIn wsX5_add (va_wsS RX5 53 yX5_checkArgument wsX5_checkArgument) := goodIn_app (goodIn_of _ (by decide +kernel)) ggX5_add_X5_checkArgument
set_option maxRecDepth 20000 in
theorem ggX5_add_X5_checkRoomForChange : GoodIn wsX5_add wsX5_checkRoomForChange := goodIn_ca (goodIn_r _ [31, 32, 33, 1, 148, 149, 150, 151, 152, 153, 154, 155, 156, 157, 158, 159, 160] (by decide +kernel) (by decide +kernel)) (goodIn_sub (fun _ h => List.mem_cons_of_mem _ (List.mem_append_right _ h)) (by decide +kernel))
set_option maxRecDepth 20000 in
theorem gX5_add_X5_checkRoomForChange : GoodIn wsX5_add (wsV RX5 79 RX5 yX5_checkRoomForChange wsX5_checkRoomForChange) := goodIn_app (goodIn_of _ (by decide +kernel)) ggX5_add_X5_checkRoomForChange
set_option maxRecDepth 20000 in
theorem ggX5_add_X5_checkLabelIsFree : GoodIn wsX5_add wsX5_checkLabelIsFree := goodIn_ca (goodIn_r _ [36, 32, 33, 37, 38, 39, 20, 40, 41, 42, 43, 44, 45, 161, 162, 163, 164, 165, 166, 167, 168, 169, 170, 171] (by decide +kernel) (by decide +kernel)) (goodIn_sub (fun _ h => List.mem_cons_of_mem _ (List.mem_append_right _ h)) (by decide +kernel))
set_option maxRecDepth 20000 in
theorem gX5_add_X5_checkLabelIsFree : GoodIn wsX5_add (va_wsS RX5 82 yX5_checkLabelIsFree wsX5_checkLabelIsFree) := goodIn_app (goodIn_of _ (by decide +kernel)) ggX5_add_X5_checkLabelIsFree
set_option maxRecDepth 20000 in
theorem ggX5_add_X4_stampOfNext : GoodIn wsX5_add wsX4_stampOfNext := goodIn_r _ [49, 50, 51, 52, 53, 54, 5, 55, 56, 57, 58, 59, 60, 61, 62, 63, 64, 161, 162, 163, 164, 165, 166, 167, 168, 169, 170, 171, 154, 155, 156, 157, 158, 159, 160] (by decide +kernel) (by decide +kernel)
set_option maxRecDepth 20000 in
theorem gX5_add_X4_stampOfNext : GoodIn wsX5_add (wsV RX5 86 RX4 yX4_stampOfNext wsX4_stampOfNext) := goodIn_app (goodIn_of _ (by decide +kernel)) ggX5_add_X4_stampOfNext
set_option maxRecDepth 20000 in
theorem ggX5_add_X2_append : GoodIn wsX5_add wsX2_append := goodIn_r _ [68, 69, 70, 61, 71, 72, 73, 74, 75, 5, 76, 154, 155, 156, 157, 158, 159, 160] (by decide +kernel) (by decide +kernel)
set_option maxRecDepth 20000 in
theorem gX5_add_X2_append : GoodIn wsX5_add (wsV RX5 90 RX2 yX2_append wsX2_append) := goodIn_app (goodIn_of _ (by decide +kernel)) ggX5_add_X2_append
set_option maxRecDepth 20000 in
theorem ggX5_add_X4_learn : GoodIn wsX5_add wsX4_learn := goodIn_r _ [80, 50, 52, 81, 82, 83, 20, 84, 51, 54, 5, 55, 85, 86, 87, 59, 88, 61, 75, 76, 89, 90, 91, 92, 22, 41, 42, 93, 94, 95, 96, 97, 98, 99, 100, 101, 102, 103, 104, 105, 106, 107, 108, 109, 110, 111, 112, 18, 19, 21, 113, 38, 39, 40, 43, 44, 45, 114, 115, 116, 117, 118, 119, 120, 121, 122, 123, 124, 125, 126, 127, 128, 129, 130, 131, 132, 133, 134, 135, 136, 137, 138, 139, 140, 141, 142, 143, 144, 145, 146, 147, 161, 162, 163, 164, 165, 166, 167, 168, 169, 170, 171, 154, 155, 156, 157, 158, 159, 160, 172, 173] (by decide +kernel) (by decide +kernel)
set_option maxRecDepth 20000 in
theorem gX5_add_X4_learn : GoodIn wsX5_add (wsV RX5 94 RX4 yX4_learn wsX4_learn) := goodIn_app (goodIn_of _ (by decide +kernel)) ggX5_add_X4_learn
theorem dX5_add_0 : decode cX5_add 0 = .ok (.aload_n 0, 1) := by decide +kernel
theorem dX5_add_1 : decode cX5_add 1 = .ok (.iload_n 1, 1) := by decide +kernel
theorem dX5_add_2 : decode cX5_add 2 = .ok (.invokevirtual 71, 3) := by decide +kernel
theorem dX5_add_5 : decode cX5_add 5 = .ok (.astore 5, 2) := by decide +kernel
theorem dX5_add_7 : decode cX5_add 7 = .ok (.aload 5, 2) := by decide +kernel
theorem dX5_add_9 : decode cX5_add 9 = .ok (.iload_n 2, 1) := by decide +kernel
theorem dX5_add_10 : decode cX5_add 10 = .ok (.invokestatic 75, 3) := by decide +kernel
theorem dX5_add_13 : decode cX5_add 13 = .ok (.iload 4, 2) := by decide +kernel
theorem dX5_add_15 : decode cX5_add 15 = .ok (.iconst 3, 1) := by decide +kernel
theorem dX5_add_16 : decode cX5_add 16 = .ok (.invokestatic 49, 3) := by decide +kernel
theorem dX5_add_19 : decode cX5_add 19 = .ok (.iload_n 3, 1) := by decide +kernel
theorem dX5_add_20 : decode cX5_add 20 = .ok (.iconst 0, 1) := by decide +kernel
theorem dX5_add_21 : decode cX5_add 21 = .ok (.bipush 99, 2) := by decide +kernel
theorem dX5_add_23 : decode cX5_add 23 = .ok (.invokestatic 53, 3) := by decide +kernel
theorem dX5_add_26 : decode cX5_add 26 = .ok (.aload_n 0, 1) := by decide +kernel
theorem dX5_add_27 : decode cX5_add 27 = .ok (.invokevirtual 79, 3) := by decide +kernel
theorem dX5_add_30 : decode cX5_add 30 = .ok (.aload 5, 2) := by decide +kernel
theorem dX5_add_32 : decode cX5_add 32 = .ok (.iload_n 2, 1) := by decide +kernel
theorem dX5_add_33 : decode cX5_add 33 = .ok (.iload_n 3, 1) := by decide +kernel
theorem dX5_add_34 : decode cX5_add 34 = .ok (.iconst (-1), 1) := by decide +kernel
theorem dX5_add_35 : decode cX5_add 35 = .ok (.invokestatic 82, 3) := by decide +kernel
theorem dX5_add_38 : decode cX5_add 38 = .ok (.aload_n 0, 1) := by decide +kernel
theorem dX5_add_39 : decode cX5_add 39 = .ok (.getfield 19, 3) := by decide +kernel
theorem dX5_add_42 : decode cX5_add 42 = .ok (.getfield 57, 3) := by decide +kernel
theorem dX5_add_45 : decode cX5_add 45 = .ok (.iconst 2, 1) := by decide +kernel
theorem dX5_add_46 : decode cX5_add 46 = .ok (.iadd, 1) := by decide +kernel
theorem dX5_add_47 : decode cX5_add 47 = .ok (.istore 6, 2) := by decide +kernel
theorem dX5_add_49 : decode cX5_add 49 = .ok (.aload 5, 2) := by decide +kernel
theorem dX5_add_51 : decode cX5_add 51 = .ok (.aload_n 0, 1) := by decide +kernel
theorem dX5_add_52 : decode cX5_add 52 = .ok (.getfield 19, 3) := by decide +kernel
theorem dX5_add_55 : decode cX5_add 55 = .ok (.iconst 0, 1) := by decide +kernel
theorem dX5_add_56 : decode cX5_add 56 = .ok (.aload 5, 2) := by decide +kernel
theorem dX5_add_58 : decode cX5_add 58 = .ok (.invokevirtual 86, 3) := by decide +kernel
theorem dX5_add_61 : decode cX5_add 61 = .ok (.iload 6, 2) := by decide +kernel
theorem dX5_add_63 : decode cX5_add 63 = .ok (.iload_n 2, 1) := by decide +kernel
theorem dX5_add_64 : decode cX5_add 64 = .ok (.iload_n 3, 1) := by decide +kernel
theorem dX5_add_65 : decode cX5_add 65 = .ok (.iload 4, 2) := by decide +kernel
theorem dX5_add_67 : decode cX5_add 67 = .ok (.invokevirtual 90, 3) := by decide +kernel
theorem dX5_add_70 : decode cX5_add 70 = .ok (.invokevirtual 94, 3) := by decide +kernel
theorem dX5_add_73 : decode cX5_add 73 = .ok (.iload 6, 2) := by decide +kernel
theorem dX5_add_75 : decode cX5_add 75 = .ok (.ireturn, 1) := by decide +kernel
set_option maxRecDepth 20000 in
theorem ggX5_set_X5_treeOf : GoodIn wsX5_set wsX5_treeOf := goodIn_ca (goodIn_r _ [8, 9, 10, 11, 12, 7, 13, 14, 15, 149, 150, 151, 152, 153, 154] (by decide +kernel) (by decide +kernel)) (goodIn_sub (fun _ h => List.mem_cons_of_mem _ (List.mem_append_left _ (List.mem_append_right _ h))) (by decide +kernel))
set_option maxRecDepth 20000 in
theorem gX5_set_X5_treeOf : GoodIn wsX5_set (wsV RX5 71 RX5 yX5_treeOf wsX5_treeOf) := goodIn_app (goodIn_of _ (by decide +kernel)) ggX5_set_X5_treeOf
set_option maxRecDepth 20000 in
theorem ggX5_set_X5_checkEntry : GoodIn wsX5_set wsX5_checkEntry := goodIn_ca (goodIn_r _ [18, 14, 15, 19, 20, 21, 22, 23, 24, 155, 156, 157, 158, 159, 160, 161, 162, 163, 164, 165] (by decide +kernel) (by decide +kernel)) (goodIn_sub (fun _ h => List.mem_cons_of_mem _ (List.mem_append_left _ (List.mem_append_right _ h))) (by decide +kernel))
set_option maxRecDepth 20000 in
theorem gX5_set_X5_checkEntry : GoodIn wsX5_set (va_wsS RX5 75 yX5_checkEntry wsX5_checkEntry) := goodIn_app (goodIn_of _ (by decide +kernel)) ggX5_set_X5_checkEntry
set_option maxRecDepth 20000 in
theorem ggX5_set_X5_checkIndex : GoodIn wsX5_set wsX5_checkIndex := goodIn_ca (goodIn_r _ [13, 14, 15] (by decide +kernel) (by decide +kernel)) (goodIn_sub (fun _ h => List.mem_cons_of_mem _ (List.mem_append_left _ (List.mem_append_right _ h))) (by decide +kernel))
set_option maxRecDepth 20000 in
theorem gX5_set_X5_checkIndex : GoodIn wsX5_set (va_wsS RX5 49 yX5_checkIndex wsX5_checkIndex) := goodIn_app (goodIn_of _ (by decide +kernel)) ggX5_set_X5_checkIndex
set_option maxRecDepth 20000 in
theorem ggX5_set_X5_checkArgument : GoodIn wsX5_set wsX5_checkArgument := goodIn_ca (goodIn_r _ [27, 28, 29] (by decide +kernel) (by decide +kernel)) (goodIn_sub (fun _ h => List.mem_cons_of_mem _ (List.mem_append_right _ h)) (by decide +kernel))
set_option maxRecDepth 20000 in
theorem gX5_set_X5_checkArgument : GoodIn wsX5_set (va_wsS RX5 53 yX5_checkArgument wsX5_checkArgument) := goodIn_app (goodIn_of _ (by decide +kernel)) ggX5_set_X5_checkArgument
set_option maxRecDepth 20000 in
theorem ggX5_set_X5_checkRoomForChange : GoodIn wsX5_set wsX5_checkRoomForChange := goodIn_ca (goodIn_r _ [33, 1, 2, 3, 149, 150, 151, 152, 153, 154, 166, 167, 168, 169, 170, 171, 172] (by decide +kernel) (by decide +kernel)) (goodIn_sub (fun _ h => List.mem_cons_of_mem _ (List.mem_append_left _ (List.mem_append_left _ (List.mem_append_right _ h)))) (by decide +kernel))
set_option maxRecDepth 20000 in
theorem gX5_set_X5_checkRoomForChange : GoodIn wsX5_set (wsV RX5 79 RX5 yX5_checkRoomForChange wsX5_checkRoomForChange) := goodIn_app (goodIn_of _ (by decide +kernel)) ggX5_set_X5_checkRoomForChange
set_option maxRecDepth 20000 in
theorem ggX5_set_X4_mayHold : GoodIn wsX5_set wsX4_mayHold := goodIn_r _ [37, 38, 39, 40, 7, 41, 42, 43, 44, 45, 46, 47, 48, 49, 50, 155, 156, 157, 158, 159, 160, 161, 162, 163, 164, 165, 173, 174] (by decide +kernel) (by decide +kernel)
set_option maxRecDepth 20000 in
theorem gX5_set_X4_mayHold : GoodIn wsX5_set (wsV RX5 98 RX4 yX4_mayHold wsX4_mayHold) := goodIn_app (goodIn_of _ (by decide +kernel)) ggX5_set_X4_mayHold
set_option maxRecDepth 20000 in
theorem ggX5_set_X4_valueAt : GoodIn wsX5_set wsX4_valueAt := goodIn_r _ [54, 55, 40, 7, 41, 155, 156, 157, 158, 159, 160, 161, 162, 163, 164, 165] (by decide +kernel) (by decide +kernel)
set_option maxRecDepth 20000 in
theorem gX5_set_X4_valueAt : GoodIn wsX5_set (wsV RX5 104 RX4 yX4_valueAt wsX4_valueAt) := goodIn_app (goodIn_of _ (by decide +kernel)) ggX5_set_X4_valueAt
set_option maxRecDepth 20000 in
theorem ggX5_set_X4_stampOfNext : GoodIn wsX5_set wsX4_stampOfNext := goodIn_r _ [59, 60, 61, 62, 63, 40, 7, 41, 64, 65, 66, 67, 68, 69, 70, 71, 72, 155, 156, 157, 158, 159, 160, 161, 162, 163, 164, 165, 166, 167, 168, 169, 170, 171, 172] (by decide +kernel) (by decide +kernel)
set_option maxRecDepth 20000 in
theorem gX5_set_X4_stampOfNext : GoodIn wsX5_set (wsV RX5 86 RX4 yX4_stampOfNext wsX4_stampOfNext) := goodIn_app (goodIn_of _ (by decide +kernel)) ggX5_set_X4_stampOfNext
set_option maxRecDepth 20000 in
theorem ggX5_set_X2_append : GoodIn wsX5_set wsX2_append := goodIn_r _ [76, 77, 78, 69, 79, 80, 81, 82, 83, 7, 84, 166, 167, 168, 169, 170, 171, 172] (by decide +kernel) (by decide +kernel)
set_option maxRecDepth 20000 in
theorem gX5_set_X2_append : GoodIn wsX5_set (wsV RX5 90 RX2 yX2_append wsX2_append) := goodIn_app (goodIn_of _ (by decide +kernel)) ggX5_set_X2_append
set_option maxRecDepth 20000 in
theorem ggX5_set_X4_learn : GoodIn wsX5_set wsX4_learn := goodIn_r _ [88, 60, 62, 89, 90, 91, 22, 92, 61, 40, 7, 41, 93, 94, 95, 67, 96, 69, 83, 84, 97, 98, 99, 100, 24, 101, 102, 39, 55, 103, 104, 105, 106, 107, 108, 109, 110, 111, 112, 113, 114, 115, 116, 117, 118, 119, 120, 20, 21, 23, 121, 122, 123, 124, 125, 126, 127, 128, 129, 130, 131, 132, 35, 36, 37, 38, 42, 43, 44, 45, 46, 47, 48, 49, 50, 133, 134, 135, 136, 137, 138, 139, 140, 141, 142, 143, 144, 145, 146, 147, 148, 155, 156, 157, 158, 159, 160, 161, 162, 163, 164, 165, 166, 167, 168, 169, 170, 171, 172, 173, 174] (by decide +kernel) (by decide +kernel)
set_option maxRecDepth 20000 in
theorem gX5_set_X4_learn : GoodIn wsX5_set (wsV RX5 94 RX4 yX4_learn wsX4_learn) := goodIn_app (goodIn_of _ (by decide +kernel)) ggX5_set_X4_learn
theorem dX5_set_0 : decode cX5_set 0 = .ok (.aload_n 0, 1) := by decide +kernel
theorem dX5_set_1 : decode cX5_set 1 = .ok (.iload_n 1, 1) := by decide +kernel
theorem dX5_set_2 : decode cX5_set 2 = .ok (.invokevirtual 71, 3) := by decide +kernel
theorem dX5_set_5 : decode cX5_set 5 = .ok (.astore 5, 2) := by decide +kernel
theorem dX5_set_7 : decode cX5_set 7 = .ok (.aload 5, 2) := by decide +kernel
theorem dX5_set_9 : decode cX5_set 9 = .ok (.iload_n 2, 1) := by decide +kernel
theorem dX5_set_10 : decode cX5_set 10 = .ok (.invokestatic 75, 3) := by decide +kernel
theorem dX5_set_13 : decode cX5_set 13 = .ok (.iload_n 3, 1) := by decide +kernel
theorem dX5_set_14 : decode cX5_set 14 = .ok (.iconst 4, 1) := by decide +kernel
theorem dX5_set_15 : decode cX5_set 15 = .ok (.invokestatic 49, 3) := by decide +kernel
theorem dX5_set_18 : decode cX5_set 18 = .ok (.iload 4, 2) := by decide +kernel
theorem dX5_set_20 : decode cX5_set 20 = .ok (.iconst (-1), 1) := by decide +kernel
theorem dX5_set_21 : decode cX5_set 21 = .ok (.bipush 9, 2) := by decide +kernel
theorem dX5_set_23 : decode cX5_set 23 = .ok (.invokestatic 53, 3) := by decide +kernel
theorem dX5_set_26 : decode cX5_set 26 = .ok (.aload_n 0, 1) := by decide +kernel
theorem dX5_set_27 : decode cX5_set 27 = .ok (.invokevirtual 79, 3) := by decide +kernel
theorem dX5_set_30 : decode cX5_set 30 = .ok (.aload 5, 2) := by decide +kernel
theorem dX5_set_32 : decode cX5_set 32 = .ok (.iload_n 2, 1) := by decide +kernel
theorem dX5_set_33 : decode cX5_set 33 = .ok (.iload_n 3, 1) := by decide +kernel
theorem dX5_set_34 : decode cX5_set 34 = .ok (.invokevirtual 98, 3) := by decide +kernel
theorem dX5_set_37 : decode cX5_set 37 = .ok (.ifCond .ne 13, 3) := by decide +kernel
theorem dX5_set_40 : decode cX5_set 40 = .ok (.new 61, 3) := by decide +kernel
theorem dX5_set_43 : decode cX5_set 43 = .ok (.dup, 1) := by decide +kernel
theorem dX5_set_44 : decode cX5_set 44 = .ok (.ldc 102, 2) := by decide +kernel
theorem dX5_set_46 : decode cX5_set 46 = .ok (.invokespecial 65, 3) := by decide +kernel
theorem dX5_set_49 : decode cX5_set 49 = .ok (.athrow, 1) := by decide +kernel
theorem dX5_set_50 : decode cX5_set 50 = .ok (.aload 5, 2) := by decide +kernel
theorem dX5_set_52 : decode cX5_set 52 = .ok (.iload_n 2, 1) := by decide +kernel
theorem dX5_set_53 : decode cX5_set 53 = .ok (.iload_n 3, 1) := by decide +kernel
theorem dX5_set_54 : decode cX5_set 54 = .ok (.invokevirtual 104, 3) := by decide +kernel
theorem dX5_set_57 : decode cX5_set 57 = .ok (.istore 6, 2) := by decide +kernel
theorem dX5_set_59 : decode cX5_set 59 = .ok (.aload 5, 2) := by decide +kernel
theorem dX5_set_61 : decode cX5_set 61 = .ok (.aload_n 0, 1) := by decide +kernel
theorem dX5_set_62 : decode cX5_set 62 = .ok (.getfield 19, 3) := by decide +kernel
theorem dX5_set_65 : decode cX5_set 65 = .ok (.iconst 1, 1) := by decide +kernel
theorem dX5_set_66 : decode cX5_set 66 = .ok (.aload 5, 2) := by decide +kernel
theorem dX5_set_68 : decode cX5_set 68 = .ok (.invokevirtual 86, 3) := by decide +kernel
theorem dX5_set_71 : decode cX5_set 71 = .ok (.iload_n 2, 1) := by decide +kernel
theorem dX5_set_72 : decode cX5_set 72 = .ok (.iload_n 3, 1) := by decide +kernel
theorem dX5_set_73 : decode cX5_set 73 = .ok (.iload 4, 2) := by decide +kernel
theorem dX5_set_75 : decode cX5_set 75 = .ok (.iconst (-1), 1) := by decide +kernel
theorem dX5_set_76 : decode cX5_set 76 = .ok (.invokevirtual 90, 3) := by decide +kernel
theorem dX5_set_79 : decode cX5_set 79 = .ok (.invokevirtual 94, 3) := by decide +kernel
theorem dX5_set_82 : decode cX5_set 82 = .ok (.iload 6, 2) := by decide +kernel
theorem dX5_set_84 : decode cX5_set 84 = .ok (.ireturn, 1) := by decide +kernel
set_option maxRecDepth 20000 in
theorem ggX5_move_X5_treeOf : GoodIn wsX5_move wsX5_treeOf := goodIn_ca (goodIn_r _ [8, 9, 10, 11, 12, 7, 13, 14, 15, 153, 154, 155, 156, 157, 158] (by decide +kernel) (by decide +kernel)) (goodIn_sub (fun _ h => List.mem_cons_of_mem _ (List.mem_append_left _ (List.mem_append_right _ h))) (by decide +kernel))
set_option maxRecDepth 20000 in
theorem gX5_move_X5_treeOf : GoodIn wsX5_move (wsV RX5 71 RX5 yX5_treeOf wsX5_treeOf) := goodIn_app (goodIn_of _ (by decide +kernel)) ggX5_move_X5_treeOf
set_option maxRecDepth 20000 in
theorem ggX5_move_X5_checkEntry : GoodIn wsX5_move wsX5_checkEntry := goodIn_ca (goodIn_r _ [18, 14, 15, 19, 20, 21, 22, 23, 24, 159, 160, 161, 162, 163, 164, 165, 166, 167, 168, 169] (by decide +kernel) (by decide +kernel)) (goodIn_sub (fun _ h => List.mem_cons_of_mem _ (List.mem_append_left _ (List.mem_append_right _ h))) (by decide +kernel))
set_option maxRecDepth 20000 in
theorem gX5_move_X5_checkEntry : GoodIn wsX5_move (va_wsS RX5 75 yX5_checkEntry wsX5_checkEntry) := goodIn_app (goodIn_of _ (by decide +kernel)) ggX5_move_X5_checkEntry
set_option maxRecDepth 20000 in
theorem ggX5_move_X5_checkArgument : GoodIn wsX5_move wsX5_checkArgument := goodIn_ca (goodIn_r _ [27, 28, 29] (by decide +kernel) (by decide +kernel)) (goodIn_sub (fun _ h => List.mem_cons_of_mem _ (List.mem_append_right _ h)) (by decide +kernel))
set_option maxRecDepth 20000 in
theorem gX5_move_X5_checkArgument : GoodIn wsX5_move (va_wsS RX5 53 yX5_checkArgument wsX5_checkArgument) := goodIn_app (goodIn_of _ (by decide +kernel)) ggX5_move_X5_checkArgument
set_option maxRecDepth 20000 in
theorem ggX5_move_X5_checkRoomForChange : GoodIn wsX5_move wsX5_checkRoomForChange := goodIn_ca (goodIn_r _ [33, 1, 2, 3, 153, 154, 155, 156, 157, 158, 170, 171, 172, 173, 174, 175, 176] (by decide +kernel) (by decide +kernel)) (goodIn_sub (fun _ h => List.mem_cons_of_mem _ (List.mem_append_left _ (List.mem_append_left _ (List.mem_append_right _ h)))) (by decide +kernel))
set_option maxRecDepth 20000 in
theorem gX5_move_X5_checkRoomForChange : GoodIn wsX5_move (wsV RX5 79 RX5 yX5_checkRoomForChange wsX5_checkRoomForChange) := goodIn_app (goodIn_of _ (by decide +kernel)) ggX5_move_X5_checkRoomForChange
set_option maxRecDepth 20000 in
theorem ggX5_move_X5_checkIsNotFixed : GoodIn wsX5_move wsX5_checkIsNotFixed := goodIn_ca (goodIn_r _ [36, 1, 2] (by decide +kernel) (by decide +kernel)) (goodIn_sub (fun _ h => List.mem_cons_of_mem _ (List.mem_append_left _ (List.mem_append_left _ (List.mem_append_right _ h)))) (by decide +kernel))
set_option maxRecDepth 20000 in
theorem gX5_move_X5_checkIsNotFixed : GoodIn wsX5_move (va_wsS RX5 108 yX5_checkIsNotFixed wsX5_checkIsNotFixed) := goodIn_app (goodIn_of _ (by decide +kernel)) ggX5_move_X5_checkIsNotFixed
set_option maxRecDepth 20000 in
theorem ggX5_move_X4_isAtOrBelow : GoodIn wsX5_move wsX4_isAtOrBelow := goodIn_r _ [40, 41, 42, 43, 22, 44, 45, 46, 7, 47, 159, 160, 161, 162, 163, 164, 165, 166, 167, 168, 169] (by decide +kernel) (by decide +kernel)
set_option maxRecDepth 20000 in
theorem gX5_move_X4_isAtOrBelow : GoodIn wsX5_move (wsV RX5 111 RX4 yX4_isAtOrBelow wsX4_isAtOrBelow) := goodIn_app (goodIn_of _ (by decide +kernel)) ggX5_move_X4_isAtOrBelow
set_option maxRecDepth 20000 in
theorem ggX5_move_X5_checkLabelIsFree : GoodIn wsX5_move wsX5_checkLabelIsFree := goodIn_ca (goodIn_r _ [50, 1, 2, 51, 52, 53, 22, 54, 45, 55, 56, 57, 58, 159, 160, 161, 162, 163, 164, 165, 166, 167, 168, 169] (by decide +kernel) (by decide +kernel)) (goodIn_sub (fun _ h => List.mem_cons_of_mem _ (List.mem_append_left _ (List.mem_append_left _ (List.mem_append_right _ h)))) (by decide +kernel))
set_option maxRecDepth 20000 in
theorem gX5_move_X5_checkLabelIsFree : GoodIn wsX5_move (va_wsS RX5 82 yX5_checkLabelIsFree wsX5_checkLabelIsFree) := goodIn_app (goodIn_of _ (by decide +kernel)) ggX5_move_X5_checkLabelIsFree
set_option maxRecDepth 20000 in
theorem ggX5_move_X4_parentAt : GoodIn wsX5_move wsX4_parentAt := goodIn_r _ [44, 45, 46, 7, 47, 159, 160, 161, 162, 163, 164, 165, 166, 167, 168, 169] (by decide +kernel) (by decide +kernel)
set_option maxRecDepth 20000 in
theorem gX5_move_X4_parentAt : GoodIn wsX5_move (wsV RX5 116 RX4 yX4_parentAt wsX4_parentAt) := goodIn_app (goodIn_of _ (by decide +kernel)) ggX5_move_X4_parentAt
set_option maxRecDepth 20000 in
theorem ggX5_move_X4_stampOfNext : GoodIn wsX5_move wsX4_stampOfNext := goodIn_r _ [63, 64, 65, 66, 67, 46, 7, 47, 68, 69, 70, 71, 72, 73, 74, 75, 76, 159, 160, 161, 162, 163, 164, 165, 166, 167, 168, 169, 170, 171, 172, 173, 174, 175, 176] (by decide +kernel) (by decide +kernel)
set_option maxRecDepth 20000 in
theorem gX5_move_X4_stampOfNext : GoodIn wsX5_move (wsV RX5 86 RX4 yX4_stampOfNext wsX4_stampOfNext) := goodIn_app (goodIn_of _ (by decide +kernel)) ggX5_move_X4_stampOfNext
set_option maxRecDepth 20000 in
theorem ggX5_move_X2_append : GoodIn wsX5_move wsX2_append := goodIn_r _ [80, 81, 82, 73, 83, 84, 85, 86, 87, 7, 88, 170, 171, 172, 173, 174, 175, 176] (by decide +kernel) (by decide +kernel)
set_option maxRecDepth 20000 in
theorem gX5_move_X2_append : GoodIn wsX5_move (wsV RX5 90 RX2 yX2_append wsX2_append) := goodIn_app (goodIn_of _ (by decide +kernel)) ggX5_move_X2_append
set_option maxRecDepth 20000 in
theorem ggX5_move_X4_learn : GoodIn wsX5_move wsX4_learn := goodIn_r _ [92, 64, 66, 93, 94, 95, 22, 96, 65, 46, 7, 47, 97, 98, 99, 71, 100, 73, 87, 88, 101, 102, 103, 104, 24, 45, 55, 105, 106, 107, 108, 109, 110, 111, 112, 113, 114, 115, 116, 117, 118, 119, 120, 121, 122, 123, 124, 20, 21, 23, 125, 52, 53, 54, 56, 57, 58, 126, 127, 128, 129, 130, 131, 132, 133, 134, 135, 136, 137, 138, 139, 140, 141, 142, 143, 144, 145, 146, 147, 148, 38, 39, 40, 41, 42, 43, 44, 149, 150, 151, 152, 159, 160, 161, 162, 163, 164, 165, 166, 167, 168, 169, 170, 171, 172, 173, 174, 175, 176, 177, 178] (by decide +kernel) (by decide +kernel)
set_option maxRecDepth 20000 in
theorem gX5_move_X4_learn : GoodIn wsX5_move (wsV RX5 94 RX4 yX4_learn wsX4_learn) := goodIn_app (goodIn_of _ (by decide +kernel)) ggX5_move_X4_learn
theorem dX5_move_0 : decode cX5_move 0 = .ok (.aload_n 0, 1) := by decide +kernel
theorem dX5_move_1 : decode cX5_move 1 = .ok (.iload_n 1, 1) := by decide +kernel
theorem dX5_move_2 : decode cX5_move 2 = .ok (.invokevirtual 71, 3) := by decide +kernel
theorem dX5_move_5 : decode cX5_move 5 = .ok (.astore 5, 2) := by decide +kernel
theorem dX5_move_7 : decode cX5_move 7 = .ok (.aload 5, 2) := by decide +kernel
theorem dX5_move_9 : decode cX5_move 9 = .ok (.iload_n 2, 1) := by decide +kernel
theorem dX5_move_10 : decode cX5_move 10 = .ok (.invokestatic 75, 3) := by decide +kernel
theorem dX5_move_13 : decode cX5_move 13 = .ok (.aload 5, 2) := by decide +kernel
theorem dX5_move_15 : decode cX5_move 15 = .ok (.iload_n 3, 1) := by decide +kernel
theorem dX5_move_16 : decode cX5_move 16 = .ok (.invokestatic 75, 3) := by decide +kernel
theorem dX5_move_19 : decode cX5_move 19 = .ok (.iload 4, 2) := by decide +kernel
theorem dX5_move_21 : decode cX5_move 21 = .ok (.iconst 0, 1) := by decide +kernel
theorem dX5_move_22 : decode cX5_move 22 = .ok (.bipush 99, 2) := by decide +kernel
theorem dX5_move_24 : decode cX5_move 24 = .ok (.invokestatic 53, 3) := by decide +kernel
theorem dX5_move_27 : decode cX5_move 27 = .ok (.aload_n 0, 1) := by decide +kernel
theorem dX5_move_28 : decode cX5_move 28 = .ok (.invokevirtual 79, 3) := by decide +kernel
theorem dX5_move_31 : decode cX5_move 31 = .ok (.iload_n 2, 1) := by decide +kernel
theorem dX5_move_32 : decode cX5_move 32 = .ok (.invokestatic 108, 3) := by decide +kernel
theorem dX5_move_35 : decode cX5_move 35 = .ok (.aload 5, 2) := by decide +kernel
theorem dX5_move_37 : decode cX5_move 37 = .ok (.iload_n 3, 1) := by decide +kernel
theorem dX5_move_38 : decode cX5_move 38 = .ok (.iload_n 2, 1) := by decide +kernel
theorem dX5_move_39 : decode cX5_move 39 = .ok (.invokevirtual 111, 3) := by decide +kernel
theorem dX5_move_42 : decode cX5_move 42 = .ok (.ifCond .eq 13, 3) := by decide +kernel
theorem dX5_move_45 : decode cX5_move 45 = .ok (.new 61, 3) := by decide +kernel
theorem dX5_move_48 : decode cX5_move 48 = .ok (.dup, 1) := by decide +kernel
theorem dX5_move_49 : decode cX5_move 49 = .ok (.ldc 114, 2) := by decide +kernel
theorem dX5_move_51 : decode cX5_move 51 = .ok (.invokespecial 65, 3) := by decide +kernel
theorem dX5_move_54 : decode cX5_move 54 = .ok (.athrow, 1) := by decide +kernel
theorem dX5_move_55 : decode cX5_move 55 = .ok (.aload 5, 2) := by decide +kernel
theorem dX5_move_57 : decode cX5_move 57 = .ok (.iload_n 3, 1) := by decide +kernel
theorem dX5_move_58 : decode cX5_move 58 = .ok (.iload 4, 2) := by decide +kernel
theorem dX5_move_60 : decode cX5_move 60 = .ok (.iload_n 2, 1) := by decide +kernel
theorem dX5_move_61 : decode cX5_move 61 = .ok (.invokestatic 82, 3) := by decide +kernel
theorem dX5_move_64 : decode cX5_move 64 = .ok (.aload 5, 2) := by decide +kernel
theorem dX5_move_66 : decode cX5_move 66 = .ok (.iload_n 2, 1) := by decide +kernel
theorem dX5_move_67 : decode cX5_move 67 = .ok (.invokevirtual 116, 3) := by decide +kernel
theorem dX5_move_70 : decode cX5_move 70 = .ok (.istore 6, 2) := by decide +kernel
theorem dX5_move_72 : decode cX5_move 72 = .ok (.aload 5, 2) := by decide +kernel
theorem dX5_move_74 : decode cX5_move 74 = .ok (.aload_n 0, 1) := by decide +kernel
theorem dX5_move_75 : decode cX5_move 75 = .ok (.getfield 19, 3) := by decide +kernel
theorem dX5_move_78 : decode cX5_move 78 = .ok (.iconst 2, 1) := by decide +kernel
theorem dX5_move_79 : decode cX5_move 79 = .ok (.aload 5, 2) := by decide +kernel
theorem dX5_move_81 : decode cX5_move 81 = .ok (.invokevirtual 86, 3) := by decide +kernel
theorem dX5_move_84 : decode cX5_move 84 = .ok (.iload_n 2, 1) := by decide +kernel
theorem dX5_move_85 : decode cX5_move 85 = .ok (.iload_n 3, 1) := by decide +kernel
theorem dX5_move_86 : decode cX5_move 86 = .ok (.iload 4, 2) := by decide +kernel
theorem dX5_move_88 : decode cX5_move 88 = .ok (.iconst (-1), 1) := by decide +kernel
theorem dX5_move_89 : decode cX5_move 89 = .ok (.invokevirtual 90, 3) := by decide +kernel
theorem dX5_move_92 : decode cX5_move 92 = .ok (.invokevirtual 94, 3) := by decide +kernel
theorem dX5_move_95 : decode cX5_move 95 = .ok (.iload 6, 2) := by decide +kernel
theorem dX5_move_97 : decode cX5_move 97 = .ok (.ireturn, 1) := by decide +kernel
set_option maxRecDepth 20000 in
theorem ggX5_delete_X5_treeOf : GoodIn wsX5_delete wsX5_treeOf := goodIn_ca (goodIn_r _ [8, 9, 10, 11, 12, 7, 13, 14, 15, 146, 147, 148, 149, 150, 151] (by decide +kernel) (by decide +kernel)) (goodIn_sub (fun _ h => List.mem_cons_of_mem _ (List.mem_append_right _ h)) (by decide +kernel))
set_option maxRecDepth 20000 in
theorem gX5_delete_X5_treeOf : GoodIn wsX5_delete (wsV RX5 71 RX5 yX5_treeOf wsX5_treeOf) := goodIn_app (goodIn_of _ (by decide +kernel)) ggX5_delete_X5_treeOf
set_option maxRecDepth 20000 in
theorem ggX5_delete_X5_checkEntry : GoodIn wsX5_delete wsX5_checkEntry := goodIn_ca (goodIn_r _ [18, 14, 15, 19, 20, 21, 22, 23, 24, 152, 153, 154, 155, 156, 157, 158, 159, 160, 161, 162] (by decide +kernel) (by decide +kernel)) (goodIn_sub (fun _ h => List.mem_cons_of_mem _ (List.mem_append_right _ h)) (by decide +kernel))
set_option maxRecDepth 20000 in
theorem gX5_delete_X5_checkEntry : GoodIn wsX5_delete (va_wsS RX5 75 yX5_checkEntry wsX5_checkEntry) := goodIn_app (goodIn_of _ (by decide +kernel)) ggX5_delete_X5_checkEntry
set_option maxRecDepth 20000 in
theorem ggX5_delete_X5_checkRoomForChange : GoodIn wsX5_delete wsX5_checkRoomForChange := goodIn_ca (goodIn_r _ [28, 1, 2, 3, 146, 147, 148, 149, 150, 151, 163, 164, 165, 166, 167, 168, 169] (by decide +kernel) (by decide +kernel)) (goodIn_sub (fun _ h => List.mem_cons_of_mem _ (List.mem_append_left _ (List.mem_append_right _ h))) (by decide +kernel))
set_option maxRecDepth 20000 in
theorem gX5_delete_X5_checkRoomForChange : GoodIn wsX5_delete (wsV RX5 79 RX5 yX5_checkRoomForChange wsX5_checkRoomForChange) := goodIn_app (goodIn_of _ (by decide +kernel)) ggX5_delete_X5_checkRoomForChange
set_option maxRecDepth 20000 in
theorem ggX5_delete_X5_checkIsNotFixed : GoodIn wsX5_delete wsX5_checkIsNotFixed := goodIn_ca (goodIn_r _ [31, 1, 2] (by decide +kernel) (by decide +kernel)) (goodIn_sub (fun _ h => List.mem_cons_of_mem _ (List.mem_append_left _ (List.mem_append_right _ h))) (by decide +kernel))
set_option maxRecDepth 20000 in
theorem gX5_delete_X5_checkIsNotFixed : GoodIn wsX5_delete (va_wsS RX5 108 yX5_checkIsNotFixed wsX5_checkIsNotFixed) := goodIn_app (goodIn_of _ (by decide +kernel)) ggX5_delete_X5_checkIsNotFixed
set_option maxRecDepth 20000 in
theorem ggX5_delete_X4_hasChild : GoodIn wsX5_delete wsX4_hasChild := goodIn_r _ [35, 36, 152, 153, 154, 155, 156, 157, 158, 159, 160, 161, 162] (by decide +kernel) (by decide +kernel)
set_option maxRecDepth 20000 in
theorem gX5_delete_X4_hasChild : GoodIn wsX5_delete (wsV RX5 120 RX4 yX4_hasChild wsX4_hasChild) := goodIn_app (goodIn_of _ (by decide +kernel)) ggX5_delete_X4_hasChild
set_option maxRecDepth 20000 in
theorem ggX5_delete_X4_stampOfNext : GoodIn wsX5_delete wsX4_stampOfNext := goodIn_r _ [40, 41, 42, 43, 44, 45, 7, 46, 47, 48, 49, 50, 51, 52, 53, 54, 55, 152, 153, 154, 155, 156, 157, 158, 159, 160, 161, 162, 163, 164, 165, 166, 167, 168, 169] (by decide +kernel) (by decide +kernel)
set_option maxRecDepth 20000 in
theorem gX5_delete_X4_stampOfNext : GoodIn wsX5_delete (wsV RX5 86 RX4 yX4_stampOfNext wsX4_stampOfNext) := goodIn_app (goodIn_of _ (by decide +kernel)) ggX5_delete_X4_stampOfNext
set_option maxRecDepth 20000 in
theorem ggX5_delete_X2_append : GoodIn wsX5_delete wsX2_append := goodIn_r _ [59, 60, 61, 52, 62, 63, 64, 65, 66, 7, 67, 163, 164, 165, 166, 167, 168, 169] (by decide +kernel) (by decide +kernel)
set_option maxRecDepth 20000 in
theorem gX5_delete_X2_append : GoodIn wsX5_delete (wsV RX5 90 RX2 yX2_append wsX2_append) := goodIn_app (goodIn_of _ (by decide +kernel)) ggX5_delete_X2_append
set_option maxRecDepth 20000 in
theorem ggX5_delete_X4_learn : GoodIn wsX5_delete wsX4_learn := goodIn_r _ [71, 41, 43, 72, 73, 74, 22, 75, 42, 45, 7, 46, 76, 77, 78, 50, 79, 52, 66, 67, 80, 81, 82, 83, 24, 36, 84, 85, 86, 87, 88, 89, 90, 91, 92, 93, 94, 95, 96, 97, 98, 99, 100, 101, 102, 103, 104, 20, 21, 23, 105, 106, 107, 108, 109, 110, 111, 112, 113, 114, 115, 116, 117, 118, 119, 120, 121, 122, 123, 124, 125, 126, 127, 128, 129, 130, 131, 132, 133, 134, 135, 136, 137, 138, 139, 140, 141, 142, 143, 144, 145, 152, 153, 154, 155, 156, 157, 158, 159, 160, 161, 162, 163, 164, 165, 166, 167, 168, 169, 170, 171] (by decide +kernel) (by decide +kernel)
set_option maxRecDepth 20000 in
theorem gX5_delete_X4_learn : GoodIn wsX5_delete (wsV RX5 94 RX4 yX4_learn wsX4_learn) := goodIn_app (goodIn_of _ (by decide +kernel)) ggX5_delete_X4_learn
theorem dX5_delete_0 : decode cX5_delete 0 = .ok (.aload_n 0, 1) := by decide +kernel
theorem dX5_delete_1 : decode cX5_delete 1 = .ok (.iload_n 1, 1) := by decide +kernel
theorem dX5_delete_2 : decode cX5_delete 2 = .ok (.invokevirtual 71, 3) := by decide +kernel
theorem dX5_delete_5 : decode cX5_delete 5 = .ok (.astore_n 3, 1) := by decide +kernel
theorem dX5_delete_6 : decode cX5_delete 6 = .ok (.aload_n 3, 1) := by decide +kernel
theorem dX5_delete_7 : decode cX5_delete 7 = .ok (.iload_n 2, 1) := by decide +kernel
theorem dX5_delete_8 : decode cX5_delete 8 = .ok (.invokestatic 75, 3) := by decide +kernel
theorem dX5_delete_11 : decode cX5_delete 11 = .ok (.aload_n 0, 1) := by decide +kernel
theorem dX5_delete_12 : decode cX5_delete 12 = .ok (.invokevirtual 79, 3) := by decide +kernel
theorem dX5_delete_15 : decode cX5_delete 15 = .ok (.iload_n 2, 1) := by decide +kernel
theorem dX5_delete_16 : decode cX5_delete 16 = .ok (.invokestatic 108, 3) := by decide +kernel
theorem dX5_delete_19 : decode cX5_delete 19 = .ok (.aload_n 3, 1) := by decide +kernel
theorem dX5_delete_20 : decode cX5_delete 20 = .ok (.iload_n 2, 1) := by decide +kernel
theorem dX5_delete_21 : decode cX5_delete 21 = .ok (.invokevirtual 120, 3) := by decide +kernel
theorem dX5_delete_24 : decode cX5_delete 24 = .ok (.ifCond .eq 13, 3) := by decide +kernel
theorem dX5_delete_27 : decode cX5_delete 27 = .ok (.new 61, 3) := by decide +kernel
theorem dX5_delete_30 : decode cX5_delete 30 = .ok (.dup, 1) := by decide +kernel
theorem dX5_delete_31 : decode cX5_delete 31 = .ok (.ldc 124, 2) := by decide +kernel
theorem dX5_delete_33 : decode cX5_delete 33 = .ok (.invokespecial 65, 3) := by decide +kernel
theorem dX5_delete_36 : decode cX5_delete 36 = .ok (.athrow, 1) := by decide +kernel
theorem dX5_delete_37 : decode cX5_delete 37 = .ok (.aload_n 3, 1) := by decide +kernel
theorem dX5_delete_38 : decode cX5_delete 38 = .ok (.aload_n 0, 1) := by decide +kernel
theorem dX5_delete_39 : decode cX5_delete 39 = .ok (.getfield 19, 3) := by decide +kernel
theorem dX5_delete_42 : decode cX5_delete 42 = .ok (.iconst 3, 1) := by decide +kernel
theorem dX5_delete_43 : decode cX5_delete 43 = .ok (.aload_n 3, 1) := by decide +kernel
theorem dX5_delete_44 : decode cX5_delete 44 = .ok (.invokevirtual 86, 3) := by decide +kernel
theorem dX5_delete_47 : decode cX5_delete 47 = .ok (.iload_n 2, 1) := by decide +kernel
theorem dX5_delete_48 : decode cX5_delete 48 = .ok (.iconst (-1), 1) := by decide +kernel
theorem dX5_delete_49 : decode cX5_delete 49 = .ok (.iconst (-1), 1) := by decide +kernel
theorem dX5_delete_50 : decode cX5_delete 50 = .ok (.iconst (-1), 1) := by decide +kernel
theorem dX5_delete_51 : decode cX5_delete 51 = .ok (.invokevirtual 90, 3) := by decide +kernel
theorem dX5_delete_54 : decode cX5_delete 54 = .ok (.invokevirtual 94, 3) := by decide +kernel
theorem dX5_delete_57 : decode cX5_delete 57 = .ok (.aload_n 3, 1) := by decide +kernel
theorem dX5_delete_58 : decode cX5_delete 58 = .ok (.getfield 126, 3) := by decide +kernel
theorem dX5_delete_61 : decode cX5_delete 61 = .ok (.ireturn, 1) := by decide +kernel
set_option maxRecDepth 20000 in
theorem ggX5_carry_X5_checkIndex : GoodIn wsX5_carry wsX5_checkIndex := goodIn_ca (goodIn_r _ [5, 6, 7] (by decide +kernel) (by decide +kernel)) (goodIn_sub (fun _ h => List.mem_cons_of_mem _ (List.mem_append_right _ h)) (by decide +kernel))
set_option maxRecDepth 20000 in
theorem gX5_carry_X5_checkIndex : GoodIn wsX5_carry (va_wsS RX5 49 yX5_checkIndex wsX5_checkIndex) := goodIn_app (goodIn_of _ (by decide +kernel)) ggX5_carry_X5_checkIndex
set_option maxRecDepth 20000 in
theorem ggX5_carry_X5_treeOf : GoodIn wsX5_carry wsX5_treeOf := goodIn_ca (goodIn_r _ [11, 12, 13, 2, 3, 4, 5, 6, 7, 111, 112, 113, 114, 115, 116] (by decide +kernel) (by decide +kernel)) (goodIn_sub (fun _ h => List.mem_cons_of_mem _ (List.mem_append_right _ h)) (by decide +kernel))
set_option maxRecDepth 20000 in
theorem gX5_carry_X5_treeOf : GoodIn wsX5_carry (wsV RX5 71 RX5 yX5_treeOf wsX5_treeOf) := goodIn_app (goodIn_of _ (by decide +kernel)) ggX5_carry_X5_treeOf
set_option maxRecDepth 20000 in
theorem ggX5_carry_X4_knows : GoodIn wsX5_carry wsX4_knows := goodIn_r _ [18, 19, 20, 124, 125, 126, 127, 128, 129, 130, 131, 132, 133, 134] (by decide +kernel) (by decide +kernel)
set_option maxRecDepth 20000 in
theorem gX5_carry_X4_knows : GoodIn wsX5_carry (wsV RX5 129 RX4 yX4_knows wsX4_knows) := goodIn_app (goodIn_of _ (by decide +kernel)) ggX5_carry_X4_knows
set_option maxRecDepth 20000 in
theorem ggX5_carry_X4_learn : GoodIn wsX5_carry wsX4_learn := goodIn_r _ [24, 19, 20, 25, 26, 27, 17, 28, 29, 30, 4, 31, 32, 33, 34, 35, 36, 37, 38, 39, 40, 41, 42, 43, 44, 45, 46, 47, 48, 49, 50, 51, 52, 53, 54, 55, 56, 57, 58, 59, 60, 61, 62, 63, 64, 65, 66, 67, 68, 69, 70, 71, 72, 73, 74, 75, 76, 77, 78, 79, 80, 81, 82, 83, 84, 85, 86, 87, 88, 89, 90, 91, 92, 93, 94, 95, 96, 97, 98, 99, 100, 101, 102, 103, 104, 105, 106, 107, 108, 109, 110, 124, 125, 126, 127, 128, 129, 130, 131, 132, 133, 134, 117, 118, 119, 120, 121, 122, 123, 135, 136] (by decide +kernel) (by decide +kernel)
set_option maxRecDepth 20000 in
theorem gX5_carry_X4_learn : GoodIn wsX5_carry (wsV RX5 94 RX4 yX4_learn wsX4_learn) := goodIn_app (goodIn_of _ (by decide +kernel)) ggX5_carry_X4_learn
theorem dX5_carry_0 : decode cX5_carry 0 = .ok (.iload_n 1, 1) := by decide +kernel
theorem dX5_carry_1 : decode cX5_carry 1 = .ok (.aload_n 0, 1) := by decide +kernel
theorem dX5_carry_2 : decode cX5_carry 2 = .ok (.getfield 19, 3) := by decide +kernel
theorem dX5_carry_5 : decode cX5_carry 5 = .ok (.getfield 57, 3) := by decide +kernel
theorem dX5_carry_8 : decode cX5_carry 8 = .ok (.invokestatic 49, 3) := by decide +kernel
theorem dX5_carry_11 : decode cX5_carry 11 = .ok (.aload_n 0, 1) := by decide +kernel
theorem dX5_carry_12 : decode cX5_carry 12 = .ok (.iload_n 2, 1) := by decide +kernel
theorem dX5_carry_13 : decode cX5_carry 13 = .ok (.invokevirtual 71, 3) := by decide +kernel
theorem dX5_carry_16 : decode cX5_carry 16 = .ok (.astore_n 3, 1) := by decide +kernel
theorem dX5_carry_17 : decode cX5_carry 17 = .ok (.aload_n 3, 1) := by decide +kernel
theorem dX5_carry_18 : decode cX5_carry 18 = .ok (.iload_n 1, 1) := by decide +kernel
theorem dX5_carry_19 : decode cX5_carry 19 = .ok (.invokevirtual 129, 3) := by decide +kernel
theorem dX5_carry_22 : decode cX5_carry 22 = .ok (.ifCond .eq 5, 3) := by decide +kernel
theorem dX5_carry_25 : decode cX5_carry 25 = .ok (.iconst 0, 1) := by decide +kernel
theorem dX5_carry_26 : decode cX5_carry 26 = .ok (.ireturn, 1) := by decide +kernel
theorem dX5_carry_27 : decode cX5_carry 27 = .ok (.aload_n 3, 1) := by decide +kernel
theorem dX5_carry_28 : decode cX5_carry 28 = .ok (.iload_n 1, 1) := by decide +kernel
theorem dX5_carry_29 : decode cX5_carry 29 = .ok (.invokevirtual 94, 3) := by decide +kernel
theorem dX5_carry_32 : decode cX5_carry 32 = .ok (.iconst 1, 1) := by decide +kernel
theorem dX5_carry_33 : decode cX5_carry 33 = .ok (.ireturn, 1) := by decide +kernel
theorem dX5_changes_0 : decode cX5_changes 0 = .ok (.aload_n 0, 1) := by decide +kernel
theorem dX5_changes_1 : decode cX5_changes 1 = .ok (.getfield 19, 3) := by decide +kernel
theorem dX5_changes_4 : decode cX5_changes 4 = .ok (.getfield 57, 3) := by decide +kernel
theorem dX5_changes_7 : decode cX5_changes 7 = .ok (.ireturn, 1) := by decide +kernel
set_option maxRecDepth 20000 in
theorem ggX5_timeOf_X5_checkIndex : GoodIn wsX5_timeOf wsX5_checkIndex := goodIn_ca (goodIn_r _ [5, 6, 7] (by decide +kernel) (by decide +kernel)) (goodIn_sub (fun _ h => List.mem_cons_of_mem _ (List.mem_append_right _ h)) (by decide +kernel))
set_option maxRecDepth 20000 in
theorem gX5_timeOf_X5_checkIndex : GoodIn wsX5_timeOf (va_wsS RX5 49 yX5_checkIndex wsX5_checkIndex) := goodIn_app (goodIn_of _ (by decide +kernel)) ggX5_timeOf_X5_checkIndex
set_option maxRecDepth 20000 in
theorem ggX5_timeOf_X2_timeAt : GoodIn wsX5_timeOf wsX2_timeAt := goodIn_r _ [12, 13, 14, 4, 15, 22, 23, 24, 25, 26, 27, 28] (by decide +kernel) (by decide +kernel)
set_option maxRecDepth 20000 in
theorem gX5_timeOf_X2_timeAt : GoodIn wsX5_timeOf (wsV RX5 132 RX2 yX2_timeAt wsX2_timeAt) := goodIn_app (goodIn_of _ (by decide +kernel)) ggX5_timeOf_X2_timeAt
theorem dX5_timeOf_0 : decode cX5_timeOf 0 = .ok (.iload_n 1, 1) := by decide +kernel
theorem dX5_timeOf_1 : decode cX5_timeOf 1 = .ok (.aload_n 0, 1) := by decide +kernel
theorem dX5_timeOf_2 : decode cX5_timeOf 2 = .ok (.getfield 19, 3) := by decide +kernel
theorem dX5_timeOf_5 : decode cX5_timeOf 5 = .ok (.getfield 57, 3) := by decide +kernel
theorem dX5_timeOf_8 : decode cX5_timeOf 8 = .ok (.invokestatic 49, 3) := by decide +kernel
theorem dX5_timeOf_11 : decode cX5_timeOf 11 = .ok (.aload_n 0, 1) := by decide +kernel
theorem dX5_timeOf_12 : decode cX5_timeOf 12 = .ok (.getfield 19, 3) := by decide +kernel
theorem dX5_timeOf_15 : decode cX5_timeOf 15 = .ok (.iload_n 1, 1) := by decide +kernel
theorem dX5_timeOf_16 : decode cX5_timeOf 16 = .ok (.invokevirtual 132, 3) := by decide +kernel
theorem dX5_timeOf_19 : decode cX5_timeOf 19 = .ok (.ireturn, 1) := by decide +kernel
set_option maxRecDepth 20000 in
theorem ggX5_entries_X5_treeOf : GoodIn wsX5_entries wsX5_treeOf := goodIn_ca (goodIn_r _ [5, 6, 7, 8, 9, 4, 10, 11, 12, 24, 25, 26, 27, 28, 29] (by decide +kernel) (by decide +kernel)) (goodIn_sub (fun _ h => List.mem_cons_of_mem _ (List.mem_append_right _ h)) (by decide +kernel))
set_option maxRecDepth 20000 in
theorem gX5_entries_X5_treeOf : GoodIn wsX5_entries (wsV RX5 71 RX5 yX5_treeOf wsX5_treeOf) := goodIn_app (goodIn_of _ (by decide +kernel)) ggX5_entries_X5_treeOf
theorem dX5_entries_0 : decode cX5_entries 0 = .ok (.aload_n 0, 1) := by decide +kernel
theorem dX5_entries_1 : decode cX5_entries 1 = .ok (.iload_n 1, 1) := by decide +kernel
theorem dX5_entries_2 : decode cX5_entries 2 = .ok (.invokevirtual 71, 3) := by decide +kernel
theorem dX5_entries_5 : decode cX5_entries 5 = .ok (.getfield 126, 3) := by decide +kernel
theorem dX5_entries_8 : decode cX5_entries 8 = .ok (.ireturn, 1) := by decide +kernel
set_option maxRecDepth 20000 in
theorem ggX5_isThere_X5_treeOf : GoodIn wsX5_isThere wsX5_treeOf := goodIn_ca (goodIn_r _ [5, 6, 7, 8, 9, 4, 10, 11, 12, 19, 20, 21, 22, 23, 24] (by decide +kernel) (by decide +kernel)) (goodIn_sub (fun _ h => List.mem_cons_of_mem _ (List.mem_append_right _ h)) (by decide +kernel))
set_option maxRecDepth 20000 in
theorem gX5_isThere_X5_treeOf : GoodIn wsX5_isThere (wsV RX5 71 RX5 yX5_treeOf wsX5_treeOf) := goodIn_app (goodIn_of _ (by decide +kernel)) ggX5_isThere_X5_treeOf
set_option maxRecDepth 20000 in
theorem ggX5_isThere_X4_has : GoodIn wsX5_isThere wsX4_has := goodIn_r _ [17, 18, 25, 26, 27, 28, 29, 30, 31, 32, 33, 34, 35] (by decide +kernel) (by decide +kernel)
set_option maxRecDepth 20000 in
theorem gX5_isThere_X4_has : GoodIn wsX5_isThere (wsV RX5 135 RX4 yX4_has wsX4_has) := goodIn_app (goodIn_of _ (by decide +kernel)) ggX5_isThere_X4_has
theorem dX5_isThere_0 : decode cX5_isThere 0 = .ok (.aload_n 0, 1) := by decide +kernel
theorem dX5_isThere_1 : decode cX5_isThere 1 = .ok (.iload_n 1, 1) := by decide +kernel
theorem dX5_isThere_2 : decode cX5_isThere 2 = .ok (.invokevirtual 71, 3) := by decide +kernel
theorem dX5_isThere_5 : decode cX5_isThere 5 = .ok (.iload_n 2, 1) := by decide +kernel
theorem dX5_isThere_6 : decode cX5_isThere 6 = .ok (.invokevirtual 135, 3) := by decide +kernel
theorem dX5_isThere_9 : decode cX5_isThere 9 = .ok (.ireturn, 1) := by decide +kernel
set_option maxRecDepth 20000 in
theorem ggX5_parentOf_X5_treeOf : GoodIn wsX5_parentOf wsX5_treeOf := goodIn_ca (goodIn_r _ [5, 6, 7, 8, 9, 4, 10, 11, 12, 29, 30, 31, 32, 33, 34] (by decide +kernel) (by decide +kernel)) (goodIn_sub (fun _ h => List.mem_cons_of_mem _ (List.mem_append_right _ h)) (by decide +kernel))
set_option maxRecDepth 20000 in
theorem gX5_parentOf_X5_treeOf : GoodIn wsX5_parentOf (wsV RX5 71 RX5 yX5_treeOf wsX5_treeOf) := goodIn_app (goodIn_of _ (by decide +kernel)) ggX5_parentOf_X5_treeOf
set_option maxRecDepth 20000 in
theorem ggX5_parentOf_X5_checkEntry : GoodIn wsX5_parentOf wsX5_checkEntry := goodIn_ca (goodIn_r _ [15, 11, 12, 16, 17, 18, 19, 20, 21, 35, 36, 37, 38, 39, 40, 41, 42, 43, 44, 45] (by decide +kernel) (by decide +kernel)) (goodIn_sub (fun _ h => List.mem_cons_of_mem _ (List.mem_append_right _ h)) (by decide +kernel))
set_option maxRecDepth 20000 in
theorem gX5_parentOf_X5_checkEntry : GoodIn wsX5_parentOf (va_wsS RX5 75 yX5_checkEntry wsX5_checkEntry) := goodIn_app (goodIn_of _ (by decide +kernel)) ggX5_parentOf_X5_checkEntry
set_option maxRecDepth 20000 in
theorem ggX5_parentOf_X4_parentAt : GoodIn wsX5_parentOf wsX4_parentAt := goodIn_r _ [25, 26, 27, 4, 28, 35, 36, 37, 38, 39, 40, 41, 42, 43, 44, 45] (by decide +kernel) (by decide +kernel)
set_option maxRecDepth 20000 in
theorem gX5_parentOf_X4_parentAt : GoodIn wsX5_parentOf (wsV RX5 116 RX4 yX4_parentAt wsX4_parentAt) := goodIn_app (goodIn_of _ (by decide +kernel)) ggX5_parentOf_X4_parentAt
theorem dX5_parentOf_0 : decode cX5_parentOf 0 = .ok (.aload_n 0, 1) := by decide +kernel
theorem dX5_parentOf_1 : decode cX5_parentOf 1 = .ok (.iload_n 1, 1) := by decide +kernel
theorem dX5_parentOf_2 : decode cX5_parentOf 2 = .ok (.invokevirtual 71, 3) := by decide +kernel
theorem dX5_parentOf_5 : decode cX5_parentOf 5 = .ok (.astore_n 3, 1) := by decide +kernel
theorem dX5_parentOf_6 : decode cX5_parentOf 6 = .ok (.aload_n 3, 1) := by decide +kernel
theorem dX5_parentOf_7 : decode cX5_parentOf 7 = .ok (.iload_n 2, 1) := by decide +kernel
theorem dX5_parentOf_8 : decode cX5_parentOf 8 = .ok (.invokestatic 75, 3) := by decide +kernel
theorem dX5_parentOf_11 : decode cX5_parentOf 11 = .ok (.aload_n 3, 1) := by decide +kernel
theorem dX5_parentOf_12 : decode cX5_parentOf 12 = .ok (.iload_n 2, 1) := by decide +kernel
theorem dX5_parentOf_13 : decode cX5_parentOf 13 = .ok (.invokevirtual 116, 3) := by decide +kernel
theorem dX5_parentOf_16 : decode cX5_parentOf 16 = .ok (.ireturn, 1) := by decide +kernel
set_option maxRecDepth 20000 in
theorem ggX5_labelOf_X5_treeOf : GoodIn wsX5_labelOf wsX5_treeOf := goodIn_ca (goodIn_r _ [5, 6, 7, 8, 9, 4, 10, 11, 12, 29, 30, 31, 32, 33, 34] (by decide +kernel) (by decide +kernel)) (goodIn_sub (fun _ h => List.mem_cons_of_mem _ (List.mem_append_right _ h)) (by decide +kernel))
set_option maxRecDepth 20000 in
theorem gX5_labelOf_X5_treeOf : GoodIn wsX5_labelOf (wsV RX5 71 RX5 yX5_treeOf wsX5_treeOf) := goodIn_app (goodIn_of _ (by decide +kernel)) ggX5_labelOf_X5_treeOf
set_option maxRecDepth 20000 in
theorem ggX5_labelOf_X5_checkEntry : GoodIn wsX5_labelOf wsX5_checkEntry := goodIn_ca (goodIn_r _ [15, 11, 12, 16, 17, 18, 19, 20, 21, 35, 36, 37, 38, 39, 40, 41, 42, 43, 44, 45] (by decide +kernel) (by decide +kernel)) (goodIn_sub (fun _ h => List.mem_cons_of_mem _ (List.mem_append_right _ h)) (by decide +kernel))
set_option maxRecDepth 20000 in
theorem gX5_labelOf_X5_checkEntry : GoodIn wsX5_labelOf (va_wsS RX5 75 yX5_checkEntry wsX5_checkEntry) := goodIn_app (goodIn_of _ (by decide +kernel)) ggX5_labelOf_X5_checkEntry
set_option maxRecDepth 20000 in
theorem ggX5_labelOf_X4_labelAt : GoodIn wsX5_labelOf wsX4_labelAt := goodIn_r _ [25, 26, 27, 4, 28, 35, 36, 37, 38, 39, 40, 41, 42, 43, 44, 45] (by decide +kernel) (by decide +kernel)
set_option maxRecDepth 20000 in
theorem gX5_labelOf_X4_labelAt : GoodIn wsX5_labelOf (wsV RX5 138 RX4 yX4_labelAt wsX4_labelAt) := goodIn_app (goodIn_of _ (by decide +kernel)) ggX5_labelOf_X4_labelAt
theorem dX5_labelOf_0 : decode cX5_labelOf 0 = .ok (.aload_n 0, 1) := by decide +kernel
theorem dX5_labelOf_1 : decode cX5_labelOf 1 = .ok (.iload_n 1, 1) := by decide +kernel
theorem dX5_labelOf_2 : decode cX5_labelOf 2 = .ok (.invokevirtual 71, 3) := by decide +kernel
theorem dX5_labelOf_5 : decode cX5_labelOf 5 = .ok (.astore_n 3, 1) := by decide +kernel
theorem dX5_labelOf_6 : decode cX5_labelOf 6 = .ok (.aload_n 3, 1) := by decide +kernel
theorem dX5_labelOf_7 : decode cX5_labelOf 7 = .ok (.iload_n 2, 1) := by decide +kernel
theorem dX5_labelOf_8 : decode cX5_labelOf 8 = .ok (.invokestatic 75, 3) := by decide +kernel
theorem dX5_labelOf_11 : decode cX5_labelOf 11 = .ok (.aload_n 3, 1) := by decide +kernel
theorem dX5_labelOf_12 : decode cX5_labelOf 12 = .ok (.iload_n 2, 1) := by decide +kernel
theorem dX5_labelOf_13 : decode cX5_labelOf 13 = .ok (.invokevirtual 138, 3) := by decide +kernel
theorem dX5_labelOf_16 : decode cX5_labelOf 16 = .ok (.ireturn, 1) := by decide +kernel
set_option maxRecDepth 20000 in
theorem ggX5_value_X5_treeOf : GoodIn wsX5_value wsX5_treeOf := goodIn_ca (goodIn_r _ [5, 6, 7, 8, 9, 4, 10, 11, 12, 29, 30, 31, 32, 33, 34] (by decide +kernel) (by decide +kernel)) (goodIn_sub (fun _ h => List.mem_cons_of_mem _ (List.mem_append_right _ h)) (by decide +kernel))
set_option maxRecDepth 20000 in
theorem gX5_value_X5_treeOf : GoodIn wsX5_value (wsV RX5 71 RX5 yX5_treeOf wsX5_treeOf) := goodIn_app (goodIn_of _ (by decide +kernel)) ggX5_value_X5_treeOf
set_option maxRecDepth 20000 in
theorem ggX5_value_X5_checkEntry : GoodIn wsX5_value wsX5_checkEntry := goodIn_ca (goodIn_r _ [15, 11, 12, 16, 17, 18, 19, 20, 21, 35, 36, 37, 38, 39, 40, 41, 42, 43, 44, 45] (by decide +kernel) (by decide +kernel)) (goodIn_sub (fun _ h => List.mem_cons_of_mem _ (List.mem_append_right _ h)) (by decide +kernel))
set_option maxRecDepth 20000 in
theorem gX5_value_X5_checkEntry : GoodIn wsX5_value (va_wsS RX5 75 yX5_checkEntry wsX5_checkEntry) := goodIn_app (goodIn_of _ (by decide +kernel)) ggX5_value_X5_checkEntry
set_option maxRecDepth 20000 in
theorem ggX5_value_X5_checkIndex : GoodIn wsX5_value wsX5_checkIndex := goodIn_ca (goodIn_r _ [10, 11, 12] (by decide +kernel) (by decide +kernel)) (goodIn_sub (fun _ h => List.mem_cons_of_mem _ (List.mem_append_right _ h)) (by decide +kernel))
set_option maxRecDepth 20000 in
theorem gX5_value_X5_checkIndex : GoodIn wsX5_value (va_wsS RX5 49 yX5_checkIndex wsX5_checkIndex) := goodIn_app (goodIn_of _ (by decide +kernel)) ggX5_value_X5_checkIndex
set_option maxRecDepth 20000 in
theorem ggX5_value_X4_valueAt : GoodIn wsX5_value wsX4_valueAt := goodIn_r _ [25, 26, 27, 4, 28, 35, 36, 37, 38, 39, 40, 41, 42, 43, 44, 45] (by decide +kernel) (by decide +kernel)
set_option maxRecDepth 20000 in
theorem gX5_value_X4_valueAt : GoodIn wsX5_value (wsV RX5 104 RX4 yX4_valueAt wsX4_valueAt) := goodIn_app (goodIn_of _ (by decide +kernel)) ggX5_value_X4_valueAt
theorem dX5_value_0 : decode cX5_value 0 = .ok (.aload_n 0, 1) := by decide +kernel
theorem dX5_value_1 : decode cX5_value 1 = .ok (.iload_n 1, 1) := by decide +kernel
theorem dX5_value_2 : decode cX5_value 2 = .ok (.invokevirtual 71, 3) := by decide +kernel
theorem dX5_value_5 : decode cX5_value 5 = .ok (.astore 4, 2) := by decide +kernel
theorem dX5_value_7 : decode cX5_value 7 = .ok (.aload 4, 2) := by decide +kernel
theorem dX5_value_9 : decode cX5_value 9 = .ok (.iload_n 2, 1) := by decide +kernel
theorem dX5_value_10 : decode cX5_value 10 = .ok (.invokestatic 75, 3) := by decide +kernel
theorem dX5_value_13 : decode cX5_value 13 = .ok (.iload_n 3, 1) := by decide +kernel
theorem dX5_value_14 : decode cX5_value 14 = .ok (.iconst 4, 1) := by decide +kernel
theorem dX5_value_15 : decode cX5_value 15 = .ok (.invokestatic 49, 3) := by decide +kernel
theorem dX5_value_18 : decode cX5_value 18 = .ok (.aload 4, 2) := by decide +kernel
theorem dX5_value_20 : decode cX5_value 20 = .ok (.iload_n 2, 1) := by decide +kernel
theorem dX5_value_21 : decode cX5_value 21 = .ok (.iload_n 3, 1) := by decide +kernel
theorem dX5_value_22 : decode cX5_value 22 = .ok (.invokevirtual 104, 3) := by decide +kernel
theorem dX5_value_25 : decode cX5_value 25 = .ok (.ireturn, 1) := by decide +kernel
set_option maxRecDepth 20000 in
theorem ggX5_isWhole_X5_treeOf : GoodIn wsX5_isWhole wsX5_treeOf := goodIn_ca (goodIn_r _ [5, 6, 7, 8, 9, 4, 10, 11, 12, 44, 45, 46, 47, 48, 49] (by decide +kernel) (by decide +kernel)) (goodIn_sub (fun _ h => List.mem_cons_of_mem _ (List.mem_append_right _ h)) (by decide +kernel))
set_option maxRecDepth 20000 in
theorem gX5_isWhole_X5_treeOf : GoodIn wsX5_isWhole (wsV RX5 71 RX5 yX5_treeOf wsX5_treeOf) := goodIn_app (goodIn_of _ (by decide +kernel)) ggX5_isWhole_X5_treeOf
set_option maxRecDepth 20000 in
theorem ggX5_isWhole_X5_checkEntry : GoodIn wsX5_isWhole wsX5_checkEntry := goodIn_ca (goodIn_r _ [15, 11, 12, 16, 17, 18, 19, 20, 21, 50, 51, 52, 53, 54, 55, 56, 57, 58, 59, 60] (by decide +kernel) (by decide +kernel)) (goodIn_sub (fun _ h => List.mem_cons_of_mem _ (List.mem_append_right _ h)) (by decide +kernel))
set_option maxRecDepth 20000 in
theorem gX5_isWhole_X5_checkEntry : GoodIn wsX5_isWhole (va_wsS RX5 75 yX5_checkEntry wsX5_checkEntry) := goodIn_app (goodIn_of _ (by decide +kernel)) ggX5_isWhole_X5_checkEntry
set_option maxRecDepth 20000 in
theorem ggX5_isWhole_X4_hasAllNeeded : GoodIn wsX5_isWhole wsX4_hasAllNeeded := goodIn_r _ [25, 26, 27, 28, 4, 29, 30, 31, 32, 33, 34, 35, 36, 37, 38, 39, 40, 41, 19, 42, 43, 50, 51, 52, 53, 54, 55, 56, 57, 58, 59, 60, 61, 62] (by decide +kernel) (by decide +kernel)
set_option maxRecDepth 20000 in
theorem gX5_isWhole_X4_hasAllNeeded : GoodIn wsX5_isWhole (wsV RX5 141 RX4 yX4_hasAllNeeded wsX4_hasAllNeeded) := goodIn_app (goodIn_of _ (by decide +kernel)) ggX5_isWhole_X4_hasAllNeeded
theorem dX5_isWhole_0 : decode cX5_isWhole 0 = .ok (.aload_n 0, 1) := by decide +kernel
theorem dX5_isWhole_1 : decode cX5_isWhole 1 = .ok (.iload_n 1, 1) := by decide +kernel
theorem dX5_isWhole_2 : decode cX5_isWhole 2 = .ok (.invokevirtual 71, 3) := by decide +kernel
theorem dX5_isWhole_5 : decode cX5_isWhole 5 = .ok (.astore_n 3, 1) := by decide +kernel
theorem dX5_isWhole_6 : decode cX5_isWhole 6 = .ok (.aload_n 3, 1) := by decide +kernel
theorem dX5_isWhole_7 : decode cX5_isWhole 7 = .ok (.iload_n 2, 1) := by decide +kernel
theorem dX5_isWhole_8 : decode cX5_isWhole 8 = .ok (.invokestatic 75, 3) := by decide +kernel
theorem dX5_isWhole_11 : decode cX5_isWhole 11 = .ok (.aload_n 3, 1) := by decide +kernel
theorem dX5_isWhole_12 : decode cX5_isWhole 12 = .ok (.iload_n 2, 1) := by decide +kernel
theorem dX5_isWhole_13 : decode cX5_isWhole 13 = .ok (.invokevirtual 141, 3) := by decide +kernel
theorem dX5_isWhole_16 : decode cX5_isWhole 16 = .ok (.ireturn, 1) := by decide +kernel
set_option maxRecDepth 20000 in
theorem ggX5_find_X5_treeOf : GoodIn wsX5_find wsX5_treeOf := goodIn_ca (goodIn_r _ [5, 6, 7, 8, 9, 4, 10, 11, 12, 36, 37, 38, 39, 40, 41] (by decide +kernel) (by decide +kernel)) (goodIn_sub (fun _ h => List.mem_cons_of_mem _ (List.mem_append_left _ (List.mem_append_right _ h))) (by decide +kernel))
set_option maxRecDepth 20000 in
theorem gX5_find_X5_treeOf : GoodIn wsX5_find (wsV RX5 71 RX5 yX5_treeOf wsX5_treeOf) := goodIn_app (goodIn_of _ (by decide +kernel)) ggX5_find_X5_treeOf
set_option maxRecDepth 20000 in
theorem ggX5_find_X5_checkEntry : GoodIn wsX5_find wsX5_checkEntry := goodIn_ca (goodIn_r _ [15, 11, 12, 16, 17, 18, 19, 20, 21, 42, 43, 44, 45, 46, 47, 48, 49, 50, 51, 52] (by decide +kernel) (by decide +kernel)) (goodIn_sub (fun _ h => List.mem_cons_of_mem _ (List.mem_append_left _ (List.mem_append_right _ h))) (by decide +kernel))
set_option maxRecDepth 20000 in
theorem gX5_find_X5_checkEntry : GoodIn wsX5_find (va_wsS RX5 75 yX5_checkEntry wsX5_checkEntry) := goodIn_app (goodIn_of _ (by decide +kernel)) ggX5_find_X5_checkEntry
set_option maxRecDepth 20000 in
theorem ggX5_find_X5_checkArgument : GoodIn wsX5_find wsX5_checkArgument := goodIn_ca (goodIn_r _ [24, 25, 26] (by decide +kernel) (by decide +kernel)) (goodIn_sub (fun _ h => List.mem_cons_of_mem _ (List.mem_append_right _ h)) (by decide +kernel))
set_option maxRecDepth 20000 in
theorem gX5_find_X5_checkArgument : GoodIn wsX5_find (va_wsS RX5 53 yX5_checkArgument wsX5_checkArgument) := goodIn_app (goodIn_of _ (by decide +kernel)) ggX5_find_X5_checkArgument
set_option maxRecDepth 20000 in
theorem ggX5_find_X4_childWithLabelLike : GoodIn wsX5_find wsX4_childWithLabelLike := goodIn_r _ [30, 31, 32, 33, 34, 19, 35, 42, 43, 44, 45, 46, 47, 48, 49, 50, 51, 52] (by decide +kernel) (by decide +kernel)
set_option maxRecDepth 20000 in
theorem gX5_find_X4_childWithLabelLike : GoodIn wsX5_find (wsV RX5 144 RX4 yX4_childWithLabelLike wsX4_childWithLabelLike) := goodIn_app (goodIn_of _ (by decide +kernel)) ggX5_find_X4_childWithLabelLike
theorem dX5_find_0 : decode cX5_find 0 = .ok (.aload_n 0, 1) := by decide +kernel
theorem dX5_find_1 : decode cX5_find 1 = .ok (.iload_n 1, 1) := by decide +kernel
theorem dX5_find_2 : decode cX5_find 2 = .ok (.invokevirtual 71, 3) := by decide +kernel
theorem dX5_find_5 : decode cX5_find 5 = .ok (.astore 4, 2) := by decide +kernel
theorem dX5_find_7 : decode cX5_find 7 = .ok (.aload 4, 2) := by decide +kernel
theorem dX5_find_9 : decode cX5_find 9 = .ok (.iload_n 2, 1) := by decide +kernel
theorem dX5_find_10 : decode cX5_find 10 = .ok (.invokestatic 75, 3) := by decide +kernel
theorem dX5_find_13 : decode cX5_find 13 = .ok (.iload_n 3, 1) := by decide +kernel
theorem dX5_find_14 : decode cX5_find 14 = .ok (.iconst 0, 1) := by decide +kernel
theorem dX5_find_15 : decode cX5_find 15 = .ok (.bipush 99, 2) := by decide +kernel
theorem dX5_find_17 : decode cX5_find 17 = .ok (.invokestatic 53, 3) := by decide +kernel
theorem dX5_find_20 : decode cX5_find 20 = .ok (.aload 4, 2) := by decide +kernel
theorem dX5_find_22 : decode cX5_find 22 = .ok (.iload_n 2, 1) := by decide +kernel
theorem dX5_find_23 : decode cX5_find 23 = .ok (.iload_n 3, 1) := by decide +kernel
theorem dX5_find_24 : decode cX5_find 24 = .ok (.iconst (-1), 1) := by decide +kernel
theorem dX5_find_25 : decode cX5_find 25 = .ok (.invokevirtual 144, 3) := by decide +kernel
theorem dX5_find_28 : decode cX5_find 28 = .ok (.ireturn, 1) := by decide +kernel
set_option maxRecDepth 20000 in
theorem ggX5_areAlike_X4_isSameAs : GoodIn wsX5_areAlike wsX4_isSameAs := goodIn_r _ [7, 8, 9, 10, 11, 6, 12, 13, 14, 15, 16, 17, 18, 19, 20, 21, 22, 23, 24, 25, 26, 27, 28, 29, 30, 31, 38, 39, 40, 41, 42, 43, 44, 45, 46, 47, 48] (by decide +kernel) (by decide +kernel)
set_option maxRecDepth 20000 in
theorem gX5_areAlike_X4_isSameAs : GoodIn wsX5_areAlike (wsV RX5 148 RX4 yX4_isSameAs wsX4_isSameAs) := goodIn_app (goodIn_of _ (by decide +kernel)) ggX5_areAlike_X4_isSameAs
theorem dX5_areAlike_0 : decode cX5_areAlike 0 = .ok (.aload_n 0, 1) := by decide +kernel
theorem dX5_areAlike_1 : decode cX5_areAlike 1 = .ok (.getfield 28, 3) := by decide +kernel
theorem dX5_areAlike_4 : decode cX5_areAlike 4 = .ok (.aload_n 0, 1) := by decide +kernel
theorem dX5_areAlike_5 : decode cX5_areAlike 5 = .ok (.getfield 32, 3) := by decide +kernel
theorem dX5_areAlike_8 : decode cX5_areAlike 8 = .ok (.invokevirtual 148, 3) := by decide +kernel
theorem dX5_areAlike_11 : decode cX5_areAlike 11 = .ok (.ireturn, 1) := by decide +kernel
set_option maxRecDepth 20000 in
theorem ggX5_setRight_X5_checkIndex : GoodIn wsX5_setRight wsX5_checkIndex := goodIn_ca (goodIn_r _ [5, 6, 7] (by decide +kernel) (by decide +kernel)) (goodIn_sub (fun _ h => List.mem_cons_of_mem _ (List.mem_append_left _ (List.mem_append_right _ h))) (by decide +kernel))
set_option maxRecDepth 20000 in
theorem gX5_setRight_X5_checkIndex : GoodIn wsX5_setRight (va_wsS RX5 49 yX5_checkIndex wsX5_checkIndex) := goodIn_app (goodIn_of _ (by decide +kernel)) ggX5_setRight_X5_checkIndex
set_option maxRecDepth 20000 in
theorem ggX5_setRight_X5_checkArgument : GoodIn wsX5_setRight wsX5_checkArgument := goodIn_ca (goodIn_r _ [10, 11, 12] (by decide +kernel) (by decide +kernel)) (goodIn_sub (fun _ h => List.mem_cons_of_mem _ (List.mem_append_right _ h)) (by decide +kernel))
set_option maxRecDepth 20000 in
theorem gX5_setRight_X5_checkArgument : GoodIn wsX5_setRight (va_wsS RX5 53 yX5_checkArgument wsX5_checkArgument) := goodIn_app (goodIn_of _ (by decide +kernel)) ggX5_setRight_X5_checkArgument
set_option maxRecDepth 20000 in
theorem ggX5_setRight_X3_putRight : GoodIn wsX5_setRight wsX3_putRight := goodIn_r _ [17, 18, 19, 4, 20, 27, 28] (by decide +kernel) (by decide +kernel)
set_option maxRecDepth 20000 in
theorem gX5_setRight_X3_putRight : GoodIn wsX5_setRight (wsV RX5 152 RX3 yX3_putRight wsX3_putRight) := goodIn_app (goodIn_of _ (by decide +kernel)) ggX5_setRight_X3_putRight
theorem dX5_setRight_0 : decode cX5_setRight 0 = .ok (.iload_n 1, 1) := by decide +kernel
theorem dX5_setRight_1 : decode cX5_setRight 1 = .ok (.iconst 3, 1) := by decide +kernel
theorem dX5_setRight_2 : decode cX5_setRight 2 = .ok (.invokestatic 49, 3) := by decide +kernel
theorem dX5_setRight_5 : decode cX5_setRight 5 = .ok (.iload_n 2, 1) := by decide +kernel
theorem dX5_setRight_6 : decode cX5_setRight 6 = .ok (.bipush 42, 2) := by decide +kernel
theorem dX5_setRight_8 : decode cX5_setRight 8 = .ok (.invokestatic 49, 3) := by decide +kernel
theorem dX5_setRight_11 : decode cX5_setRight 11 = .ok (.iload_n 3, 1) := by decide +kernel
theorem dX5_setRight_12 : decode cX5_setRight 12 = .ok (.iconst (-1), 1) := by decide +kernel
theorem dX5_setRight_13 : decode cX5_setRight 13 = .ok (.iconst 1, 1) := by decide +kernel
theorem dX5_setRight_14 : decode cX5_setRight 14 = .ok (.invokestatic 53, 3) := by decide +kernel
theorem dX5_setRight_17 : decode cX5_setRight 17 = .ok (.aload_n 0, 1) := by decide +kernel
theorem dX5_setRight_18 : decode cX5_setRight 18 = .ok (.getfield 38, 3) := by decide +kernel
theorem dX5_setRight_21 : decode cX5_setRight 21 = .ok (.iload_n 1, 1) := by decide +kernel
theorem dX5_setRight_22 : decode cX5_setRight 22 = .ok (.iload_n 2, 1) := by decide +kernel
theorem dX5_setRight_23 : decode cX5_setRight 23 = .ok (.iload_n 3, 1) := by decide +kernel
theorem dX5_setRight_24 : decode cX5_setRight 24 = .ok (.invokevirtual 152, 3) := by decide +kernel
theorem dX5_setRight_27 : decode cX5_setRight 27 = .ok (.return_, 1) := by decide +kernel
set_option maxRecDepth 20000 in
theorem ggX5_refer_X5_checkIndex : GoodIn wsX5_refer wsX5_checkIndex := goodIn_ca (goodIn_r _ [5, 6, 7] (by decide +kernel) (by decide +kernel)) (goodIn_sub (fun _ h => List.mem_cons_of_mem _ (List.mem_append_right _ h)) (by decide +kernel))
set_option maxRecDepth 20000 in
theorem gX5_refer_X5_checkIndex : GoodIn wsX5_refer (va_wsS RX5 49 yX5_checkIndex wsX5_checkIndex) := goodIn_app (goodIn_of _ (by decide +kernel)) ggX5_refer_X5_checkIndex
set_option maxRecDepth 20000 in
theorem ggX5_refer_X3_putReferral : GoodIn wsX5_refer wsX3_putReferral := goodIn_r _ [12, 13, 20, 21] (by decide +kernel) (by decide +kernel)
set_option maxRecDepth 20000 in
theorem gX5_refer_X3_putReferral : GoodIn wsX5_refer (wsV RX5 155 RX3 yX3_putReferral wsX3_putReferral) := goodIn_app (goodIn_of _ (by decide +kernel)) ggX5_refer_X3_putReferral
theorem dX5_refer_0 : decode cX5_refer 0 = .ok (.iload_n 1, 1) := by decide +kernel
theorem dX5_refer_1 : decode cX5_refer 1 = .ok (.bipush 42, 2) := by decide +kernel
theorem dX5_refer_3 : decode cX5_refer 3 = .ok (.invokestatic 49, 3) := by decide +kernel
theorem dX5_refer_6 : decode cX5_refer 6 = .ok (.aload_n 0, 1) := by decide +kernel
theorem dX5_refer_7 : decode cX5_refer 7 = .ok (.getfield 38, 3) := by decide +kernel
theorem dX5_refer_10 : decode cX5_refer 10 = .ok (.iload_n 1, 1) := by decide +kernel
theorem dX5_refer_11 : decode cX5_refer 11 = .ok (.iload_n 2, 1) := by decide +kernel
theorem dX5_refer_12 : decode cX5_refer 12 = .ok (.invokevirtual 155, 3) := by decide +kernel
theorem dX5_refer_15 : decode cX5_refer 15 = .ok (.return_, 1) := by decide +kernel
set_option maxRecDepth 20000 in
theorem ggX5_test_X5_checkArgument : GoodIn wsX5_test wsX5_checkArgument := goodIn_ca (goodIn_r _ [5, 6, 7] (by decide +kernel) (by decide +kernel)) (goodIn_sub (fun _ h => List.mem_cons_of_mem _ (List.mem_append_left _ (List.mem_append_right _ h))) (by decide +kernel))
set_option maxRecDepth 20000 in
theorem gX5_test_X5_checkArgument : GoodIn wsX5_test (va_wsS RX5 53 yX5_checkArgument wsX5_checkArgument) := goodIn_app (goodIn_of _ (by decide +kernel)) ggX5_test_X5_checkArgument
set_option maxRecDepth 20000 in
theorem ggX5_test_X5_checkRoomForFilter : GoodIn wsX5_test wsX5_checkRoomForFilter := goodIn_ca (goodIn_r _ [11, 12, 13, 1, 25, 26, 27, 28, 29, 30, 31, 32, 33, 34, 35] (by decide +kernel) (by decide +kernel)) (goodIn_sub (fun _ h => List.mem_cons_of_mem _ (List.mem_append_right _ h)) (by decide +kernel))
set_option maxRecDepth 20000 in
theorem gX5_test_X5_checkRoomForFilter : GoodIn wsX5_test (wsV RX5 159 RX5 yX5_checkRoomForFilter wsX5_checkRoomForFilter) := goodIn_app (goodIn_of _ (by decide +kernel)) ggX5_test_X5_checkRoomForFilter
set_option maxRecDepth 20000 in
theorem ggX5_test_X1_append : GoodIn wsX5_test wsX1_append := goodIn_r _ [18, 19, 20, 21, 22, 23, 4, 24, 31, 32, 33, 34, 35] (by decide +kernel) (by decide +kernel)
set_option maxRecDepth 20000 in
theorem gX5_test_X1_append : GoodIn wsX5_test (wsV RX5 162 RX1 yX1_append wsX1_append) := goodIn_app (goodIn_of _ (by decide +kernel)) ggX5_test_X1_append
theorem dX5_test_0 : decode cX5_test 0 = .ok (.iload_n 1, 1) := by decide +kernel
theorem dX5_test_1 : decode cX5_test 1 = .ok (.iconst 0, 1) := by decide +kernel
theorem dX5_test_2 : decode cX5_test 2 = .ok (.iconst 2, 1) := by decide +kernel
theorem dX5_test_3 : decode cX5_test 3 = .ok (.invokestatic 53, 3) := by decide +kernel
theorem dX5_test_6 : decode cX5_test 6 = .ok (.iload_n 2, 1) := by decide +kernel
theorem dX5_test_7 : decode cX5_test 7 = .ok (.iconst 0, 1) := by decide +kernel
theorem dX5_test_8 : decode cX5_test 8 = .ok (.iconst 3, 1) := by decide +kernel
theorem dX5_test_9 : decode cX5_test 9 = .ok (.invokestatic 53, 3) := by decide +kernel
theorem dX5_test_12 : decode cX5_test 12 = .ok (.iload_n 3, 1) := by decide +kernel
theorem dX5_test_13 : decode cX5_test 13 = .ok (.iconst 0, 1) := by decide +kernel
theorem dX5_test_14 : decode cX5_test 14 = .ok (.bipush 9, 2) := by decide +kernel
theorem dX5_test_16 : decode cX5_test 16 = .ok (.invokestatic 53, 3) := by decide +kernel
theorem dX5_test_19 : decode cX5_test 19 = .ok (.aload_n 0, 1) := by decide +kernel
theorem dX5_test_20 : decode cX5_test 20 = .ok (.invokevirtual 159, 3) := by decide +kernel
theorem dX5_test_23 : decode cX5_test 23 = .ok (.aload_n 0, 1) := by decide +kernel
theorem dX5_test_24 : decode cX5_test 24 = .ok (.getfield 45, 3) := by decide +kernel
theorem dX5_test_27 : decode cX5_test 27 = .ok (.iload_n 1, 1) := by decide +kernel
theorem dX5_test_28 : decode cX5_test 28 = .ok (.iload_n 2, 1) := by decide +kernel
theorem dX5_test_29 : decode cX5_test 29 = .ok (.iload_n 3, 1) := by decide +kernel
theorem dX5_test_30 : decode cX5_test 30 = .ok (.invokevirtual 162, 3) := by decide +kernel
theorem dX5_test_33 : decode cX5_test 33 = .ok (.ireturn, 1) := by decide +kernel
set_option maxRecDepth 20000 in
theorem ggX5_join_X5_checkIndex : GoodIn wsX5_join wsX5_checkIndex := goodIn_ca (goodIn_r _ [5, 6, 7] (by decide +kernel) (by decide +kernel)) (goodIn_sub (fun _ h => List.mem_cons_of_mem _ (List.mem_append_left _ (List.mem_append_left _ (List.mem_append_right _ h)))) (by decide +kernel))
set_option maxRecDepth 20000 in
theorem gX5_join_X5_checkIndex : GoodIn wsX5_join (va_wsS RX5 49 yX5_checkIndex wsX5_checkIndex) := goodIn_app (goodIn_of _ (by decide +kernel)) ggX5_join_X5_checkIndex
set_option maxRecDepth 20000 in
theorem ggX5_join_X5_checkArgument : GoodIn wsX5_join wsX5_checkArgument := goodIn_ca (goodIn_r _ [10, 11, 12] (by decide +kernel) (by decide +kernel)) (goodIn_sub (fun _ h => List.mem_cons_of_mem _ (List.mem_append_left _ (List.mem_append_right _ h))) (by decide +kernel))
set_option maxRecDepth 20000 in
theorem gX5_join_X5_checkArgument : GoodIn wsX5_join (va_wsS RX5 53 yX5_checkArgument wsX5_checkArgument) := goodIn_app (goodIn_of _ (by decide +kernel)) ggX5_join_X5_checkArgument
set_option maxRecDepth 20000 in
theorem ggX5_join_X5_checkRoomForFilter : GoodIn wsX5_join wsX5_checkRoomForFilter := goodIn_ca (goodIn_r _ [16, 17, 18, 1, 30, 31, 32, 33, 34, 35, 36, 37, 38, 39, 40] (by decide +kernel) (by decide +kernel)) (goodIn_sub (fun _ h => List.mem_cons_of_mem _ (List.mem_append_right _ h)) (by decide +kernel))
set_option maxRecDepth 20000 in
theorem gX5_join_X5_checkRoomForFilter : GoodIn wsX5_join (wsV RX5 159 RX5 yX5_checkRoomForFilter wsX5_checkRoomForFilter) := goodIn_app (goodIn_of _ (by decide +kernel)) ggX5_join_X5_checkRoomForFilter
set_option maxRecDepth 20000 in
theorem ggX5_join_X1_append : GoodIn wsX5_join wsX1_append := goodIn_r _ [23, 24, 25, 26, 27, 28, 4, 29, 36, 37, 38, 39, 40] (by decide +kernel) (by decide +kernel)
set_option maxRecDepth 20000 in
theorem gX5_join_X1_append : GoodIn wsX5_join (wsV RX5 162 RX1 yX1_append wsX1_append) := goodIn_app (goodIn_of _ (by decide +kernel)) ggX5_join_X1_append
theorem dX5_join_0 : decode cX5_join 0 = .ok (.iload_n 2, 1) := by decide +kernel
theorem dX5_join_1 : decode cX5_join 1 = .ok (.aload_n 0, 1) := by decide +kernel
theorem dX5_join_2 : decode cX5_join 2 = .ok (.getfield 45, 3) := by decide +kernel
theorem dX5_join_5 : decode cX5_join 5 = .ok (.getfield 164, 3) := by decide +kernel
theorem dX5_join_8 : decode cX5_join 8 = .ok (.invokestatic 49, 3) := by decide +kernel
theorem dX5_join_11 : decode cX5_join 11 = .ok (.iload_n 3, 1) := by decide +kernel
theorem dX5_join_12 : decode cX5_join 12 = .ok (.aload_n 0, 1) := by decide +kernel
theorem dX5_join_13 : decode cX5_join 13 = .ok (.getfield 45, 3) := by decide +kernel
theorem dX5_join_16 : decode cX5_join 16 = .ok (.getfield 164, 3) := by decide +kernel
theorem dX5_join_19 : decode cX5_join 19 = .ok (.invokestatic 49, 3) := by decide +kernel
theorem dX5_join_22 : decode cX5_join 22 = .ok (.iload_n 1, 1) := by decide +kernel
theorem dX5_join_23 : decode cX5_join 23 = .ok (.iconst 0, 1) := by decide +kernel
theorem dX5_join_24 : decode cX5_join 24 = .ok (.iconst 2, 1) := by decide +kernel
theorem dX5_join_25 : decode cX5_join 25 = .ok (.invokestatic 53, 3) := by decide +kernel
theorem dX5_join_28 : decode cX5_join 28 = .ok (.aload_n 0, 1) := by decide +kernel
theorem dX5_join_29 : decode cX5_join 29 = .ok (.invokevirtual 159, 3) := by decide +kernel
theorem dX5_join_32 : decode cX5_join 32 = .ok (.aload_n 0, 1) := by decide +kernel
theorem dX5_join_33 : decode cX5_join 33 = .ok (.getfield 45, 3) := by decide +kernel
theorem dX5_join_36 : decode cX5_join 36 = .ok (.iconst 3, 1) := by decide +kernel
theorem dX5_join_37 : decode cX5_join 37 = .ok (.iload_n 1, 1) := by decide +kernel
theorem dX5_join_38 : decode cX5_join 38 = .ok (.iadd, 1) := by decide +kernel
theorem dX5_join_39 : decode cX5_join 39 = .ok (.iload_n 2, 1) := by decide +kernel
theorem dX5_join_40 : decode cX5_join 40 = .ok (.iload_n 3, 1) := by decide +kernel
theorem dX5_join_41 : decode cX5_join 41 = .ok (.invokevirtual 162, 3) := by decide +kernel
theorem dX5_join_44 : decode cX5_join 44 = .ok (.ireturn, 1) := by decide +kernel
set_option maxRecDepth 20000 in
theorem ggX5_holds_X5_treeOf : GoodIn wsX5_holds wsX5_treeOf := goodIn_ca (goodIn_r _ [6, 7, 8, 9, 10, 5, 11, 12, 13, 66, 67, 68, 69, 70, 71] (by decide +kernel) (by decide +kernel)) (goodIn_sub (fun _ h => List.mem_cons_of_mem _ (List.mem_append_right _ h)) (by decide +kernel))
set_option maxRecDepth 20000 in
theorem gX5_holds_X5_treeOf : GoodIn wsX5_holds (wsV RX5 71 RX5 yX5_treeOf wsX5_treeOf) := goodIn_app (goodIn_of _ (by decide +kernel)) ggX5_holds_X5_treeOf
set_option maxRecDepth 20000 in
theorem ggX5_holds_X5_checkIndex : GoodIn wsX5_holds wsX5_checkIndex := goodIn_ca (goodIn_r _ [11, 12, 13] (by decide +kernel) (by decide +kernel)) (goodIn_sub (fun _ h => List.mem_cons_of_mem _ (List.mem_append_right _ h)) (by decide +kernel))
set_option maxRecDepth 20000 in
theorem gX5_holds_X5_checkIndex : GoodIn wsX5_holds (va_wsS RX5 49 yX5_checkIndex wsX5_checkIndex) := goodIn_app (goodIn_of _ (by decide +kernel)) ggX5_holds_X5_checkIndex
set_option maxRecDepth 20000 in
theorem ggX5_holds_X5_checkEntry : GoodIn wsX5_holds wsX5_checkEntry := goodIn_ca (goodIn_r _ [16, 12, 13, 17, 18, 19, 20, 21, 22, 77, 78, 79, 80, 81, 82, 83, 84, 85, 86, 87] (by decide +kernel) (by decide +kernel)) (goodIn_sub (fun _ h => List.mem_cons_of_mem _ (List.mem_append_right _ h)) (by decide +kernel))
set_option maxRecDepth 20000 in
theorem gX5_holds_X5_checkEntry : GoodIn wsX5_holds (va_wsS RX5 75 yX5_checkEntry wsX5_checkEntry) := goodIn_app (goodIn_of _ (by decide +kernel)) ggX5_holds_X5_checkEntry
set_option maxRecDepth 20000 in
theorem ggX5_holds_X1_truthFor : GoodIn wsX5_holds wsX1_truthFor := goodIn_r _ [27, 28, 29, 30, 31, 32, 33, 26, 34, 35, 36, 37, 20, 38, 39, 40, 41, 5, 42, 43, 44, 45, 46, 47, 48, 49, 50, 51, 52, 53, 54, 55, 56, 57, 58, 59, 60, 61, 62, 63, 64, 65, 72, 73, 74, 75, 76, 77, 78, 79, 80, 81, 82, 83, 84, 85, 86, 87, 88, 89] (by decide +kernel) (by decide +kernel)
set_option maxRecDepth 20000 in
theorem gX5_holds_X1_truthFor : GoodIn wsX5_holds (wsV RX5 165 RX1 yX1_truthFor wsX1_truthFor) := goodIn_app (goodIn_of _ (by decide +kernel)) ggX5_holds_X1_truthFor
theorem dX5_holds_0 : decode cX5_holds 0 = .ok (.aload_n 0, 1) := by decide +kernel
theorem dX5_holds_1 : decode cX5_holds 1 = .ok (.iload_n 1, 1) := by decide +kernel
theorem dX5_holds_2 : decode cX5_holds 2 = .ok (.invokevirtual 71, 3) := by decide +kernel
theorem dX5_holds_5 : decode cX5_holds 5 = .ok (.astore 4, 2) := by decide +kernel
theorem dX5_holds_7 : decode cX5_holds 7 = .ok (.iload_n 2, 1) := by decide +kernel
theorem dX5_holds_8 : decode cX5_holds 8 = .ok (.aload_n 0, 1) := by decide +kernel
theorem dX5_holds_9 : decode cX5_holds 9 = .ok (.getfield 45, 3) := by decide +kernel
theorem dX5_holds_12 : decode cX5_holds 12 = .ok (.getfield 164, 3) := by decide +kernel
theorem dX5_holds_15 : decode cX5_holds 15 = .ok (.invokestatic 49, 3) := by decide +kernel
theorem dX5_holds_18 : decode cX5_holds 18 = .ok (.aload 4, 2) := by decide +kernel
theorem dX5_holds_20 : decode cX5_holds 20 = .ok (.iload_n 3, 1) := by decide +kernel
theorem dX5_holds_21 : decode cX5_holds 21 = .ok (.invokestatic 75, 3) := by decide +kernel
theorem dX5_holds_24 : decode cX5_holds 24 = .ok (.aload_n 0, 1) := by decide +kernel
theorem dX5_holds_25 : decode cX5_holds 25 = .ok (.getfield 45, 3) := by decide +kernel
theorem dX5_holds_28 : decode cX5_holds 28 = .ok (.iload_n 2, 1) := by decide +kernel
theorem dX5_holds_29 : decode cX5_holds 29 = .ok (.aload 4, 2) := by decide +kernel
theorem dX5_holds_31 : decode cX5_holds 31 = .ok (.iload_n 3, 1) := by decide +kernel
theorem dX5_holds_32 : decode cX5_holds 32 = .ok (.invokevirtual 165, 3) := by decide +kernel
theorem dX5_holds_35 : decode cX5_holds 35 = .ok (.ireturn, 1) := by decide +kernel
set_option maxRecDepth 20000 in
theorem ggX5_search_X5_treeOf : GoodIn wsX5_search wsX5_treeOf := goodIn_ca (goodIn_r _ [9, 10, 11, 12, 13, 8, 14, 1, 2, 116, 117, 118, 119, 120, 121] (by decide +kernel) (by decide +kernel)) (goodIn_sub (fun _ h => List.mem_cons_of_mem _ (List.mem_append_left _ (List.mem_append_right _ h))) (by decide +kernel))
set_option maxRecDepth 20000 in
theorem gX5_search_X5_treeOf : GoodIn wsX5_search (wsV RX5 71 RX5 yX5_treeOf wsX5_treeOf) := goodIn_app (goodIn_of _ (by decide +kernel)) ggX5_search_X5_treeOf
set_option maxRecDepth 20000 in
theorem ggX5_search_X5_checkIndex : GoodIn wsX5_search wsX5_checkIndex := goodIn_ca (goodIn_r _ [14, 1, 2] (by decide +kernel) (by decide +kernel)) (goodIn_sub (fun _ h => List.mem_cons_of_mem _ (List.mem_append_left _ (List.mem_append_right _ h))) (by decide +kernel))
set_option maxRecDepth 20000 in
theorem gX5_search_X5_checkIndex : GoodIn wsX5_search (va_wsS RX5 49 yX5_checkIndex wsX5_checkIndex) := goodIn_app (goodIn_of _ (by decide +kernel)) ggX5_search_X5_checkIndex
set_option maxRecDepth 20000 in
theorem ggX5_search_X5_checkEntry : GoodIn wsX5_search wsX5_checkEntry := goodIn_ca (goodIn_r _ [17, 1, 2, 18, 19, 20, 21, 22, 23, 127, 128, 129, 130, 131, 132, 133, 134, 135, 136, 137] (by decide +kernel) (by decide +kernel)) (goodIn_sub (fun _ h => List.mem_cons_of_mem _ (List.mem_append_left _ (List.mem_append_right _ h))) (by decide +kernel))
set_option maxRecDepth 20000 in
theorem gX5_search_X5_checkEntry : GoodIn wsX5_search (va_wsS RX5 75 yX5_checkEntry wsX5_checkEntry) := goodIn_app (goodIn_of _ (by decide +kernel)) ggX5_search_X5_checkEntry
set_option maxRecDepth 20000 in
theorem ggX5_search_X5_checkArgument : GoodIn wsX5_search wsX5_checkArgument := goodIn_ca (goodIn_r _ [26, 27, 28] (by decide +kernel) (by decide +kernel)) (goodIn_sub (fun _ h => List.mem_cons_of_mem _ (List.mem_append_right _ h)) (by decide +kernel))
set_option maxRecDepth 20000 in
theorem gX5_search_X5_checkArgument : GoodIn wsX5_search (va_wsS RX5 53 yX5_checkArgument wsX5_checkArgument) := goodIn_app (goodIn_of _ (by decide +kernel)) ggX5_search_X5_checkArgument
set_option maxRecDepth 20000 in
theorem ggX5_search_X4_childAfter : GoodIn wsX5_search wsX4_childAfter := goodIn_r _ [32, 33, 34, 35, 36, 37, 38, 39, 40, 41, 42, 21, 43, 44, 45, 46, 47, 48, 49, 8, 50, 127, 128, 129, 130, 131, 132, 133, 134, 135, 136, 137, 138, 139] (by decide +kernel) (by decide +kernel)
set_option maxRecDepth 20000 in
theorem gX5_search_X4_childAfter : GoodIn wsX5_search (wsV RX5 174 RX4 yX4_childAfter wsX4_childAfter) := goodIn_app (goodIn_of _ (by decide +kernel)) ggX5_search_X4_childAfter
set_option maxRecDepth 20000 in
theorem ggX5_search_X5_isFound : GoodIn wsX5_search wsX5_isFound := goodIn_r _ [54, 3, 4, 55, 56, 57, 58, 59, 60, 61, 62, 63, 64, 65, 66, 67, 68, 69, 21, 70, 71, 72, 49, 8, 50, 73, 74, 75, 76, 77, 78, 79, 80, 81, 82, 83, 84, 85, 86, 87, 88, 89, 90, 91, 92, 93, 94, 95, 96, 97, 98, 37, 99, 100, 101, 102, 103, 104, 33, 116, 117, 118, 119, 120, 121, 122, 123, 124, 125, 126, 127, 128, 129, 130, 131, 132, 133, 134, 135, 136, 137, 140, 141, 138, 139] (by decide +kernel) (by decide +kernel)
set_option maxRecDepth 20000 in
theorem gX5_search_X5_isFound : GoodIn wsX5_search (wsV RX5 178 RX5 yX5_isFound wsX5_isFound) := goodIn_app (goodIn_of _ (by decide +kernel)) ggX5_search_X5_isFound
set_option maxRecDepth 20000 in
theorem ggX5_search_X5_nextInScope : GoodIn wsX5_search wsX5_nextInScope := goodIn_r _ [108, 4, 109, 41, 42, 21, 43, 44, 45, 46, 47, 48, 49, 8, 50, 29, 30, 31, 32, 33, 34, 35, 36, 37, 38, 39, 40, 110, 111, 112, 113, 114, 115, 102, 103, 104, 116, 117, 118, 119, 120, 121, 127, 128, 129, 130, 131, 132, 133, 134, 135, 136, 137, 138, 139] (by decide +kernel) (by decide +kernel)
set_option maxRecDepth 20000 in
theorem gX5_search_X5_nextInScope : GoodIn wsX5_search (wsV RX5 182 RX5 yX5_nextInScope wsX5_nextInScope) := goodIn_app (goodIn_of _ (by decide +kernel)) ggX5_search_X5_nextInScope
theorem dX5_search_0 : decode cX5_search 0 = .ok (.aload_n 0, 1) := by decide +kernel
theorem dX5_search_1 : decode cX5_search 1 = .ok (.iload_n 1, 1) := by decide +kernel
theorem dX5_search_2 : decode cX5_search 2 = .ok (.invokevirtual 71, 3) := by decide +kernel
theorem dX5_search_5 : decode cX5_search 5 = .ok (.astore 7, 2) := by decide +kernel
theorem dX5_search_7 : decode cX5_search 7 = .ok (.iload_n 2, 1) := by decide +kernel
theorem dX5_search_8 : decode cX5_search 8 = .ok (.iconst 3, 1) := by decide +kernel
theorem dX5_search_9 : decode cX5_search 9 = .ok (.invokestatic 49, 3) := by decide +kernel
theorem dX5_search_12 : decode cX5_search 12 = .ok (.aload 7, 2) := by decide +kernel
theorem dX5_search_14 : decode cX5_search 14 = .ok (.iload_n 3, 1) := by decide +kernel
theorem dX5_search_15 : decode cX5_search 15 = .ok (.invokestatic 75, 3) := by decide +kernel
theorem dX5_search_18 : decode cX5_search 18 = .ok (.iload 5, 2) := by decide +kernel
theorem dX5_search_20 : decode cX5_search 20 = .ok (.aload_n 0, 1) := by decide +kernel
theorem dX5_search_21 : decode cX5_search 21 = .ok (.getfield 45, 3) := by decide +kernel
theorem dX5_search_24 : decode cX5_search 24 = .ok (.getfield 164, 3) := by decide +kernel
theorem dX5_search_27 : decode cX5_search 27 = .ok (.invokestatic 49, 3) := by decide +kernel
theorem dX5_search_30 : decode cX5_search 30 = .ok (.iload 6, 2) := by decide +kernel
theorem dX5_search_32 : decode cX5_search 32 = .ok (.ifCond .ge 13, 3) := by decide +kernel
theorem dX5_search_35 : decode cX5_search 35 = .ok (.new 169, 3) := by decide +kernel
theorem dX5_search_38 : decode cX5_search 38 = .ok (.dup, 1) := by decide +kernel
theorem dX5_search_39 : decode cX5_search 39 = .ok (.ldc 171, 2) := by decide +kernel
theorem dX5_search_41 : decode cX5_search 41 = .ok (.invokespecial 173, 3) := by decide +kernel
theorem dX5_search_44 : decode cX5_search 44 = .ok (.athrow, 1) := by decide +kernel
theorem dX5_search_45 : decode cX5_search 45 = .ok (.iload 4, 2) := by decide +kernel
theorem dX5_search_47 : decode cX5_search 47 = .ok (.iconst 0, 1) := by decide +kernel
theorem dX5_search_48 : decode cX5_search 48 = .ok (.iconst 2, 1) := by decide +kernel
theorem dX5_search_49 : decode cX5_search 49 = .ok (.invokestatic 53, 3) := by decide +kernel
theorem dX5_search_52 : decode cX5_search 52 = .ok (.iconst 0, 1) := by decide +kernel
theorem dX5_search_53 : decode cX5_search 53 = .ok (.istore 8, 2) := by decide +kernel
theorem dX5_search_55 : decode cX5_search 55 = .ok (.iload 4, 2) := by decide +kernel
theorem dX5_search_57 : decode cX5_search 57 = .ok (.iconst 1, 1) := by decide +kernel
theorem dX5_search_58 : decode cX5_search 58 = .ok (.if_icmp .ne 17, 3) := by decide +kernel
theorem dX5_search_61 : decode cX5_search 61 = .ok (.aload 7, 2) := by decide +kernel
theorem dX5_search_63 : decode cX5_search 63 = .ok (.iload_n 3, 1) := by decide +kernel
theorem dX5_search_64 : decode cX5_search 64 = .ok (.iconst (-1), 1) := by decide +kernel
theorem dX5_search_65 : decode cX5_search 65 = .ok (.aload_n 0, 1) := by decide +kernel
theorem dX5_search_66 : decode cX5_search 66 = .ok (.getfield 38, 3) := by decide +kernel
theorem dX5_search_69 : decode cX5_search 69 = .ok (.invokevirtual 174, 3) := by decide +kernel
theorem dX5_search_72 : decode cX5_search 72 = .ok (.goto 4, 3) := by decide +kernel
theorem dX5_search_75 : decode cX5_search 75 = .ok (.iload_n 3, 1) := by decide +kernel
theorem dX5_search_76 : decode cX5_search 76 = .ok (.istore 9, 2) := by decide +kernel
theorem dX5_search_78 : decode cX5_search 78 = .ok (.iconst 0, 1) := by decide +kernel
theorem dX5_search_79 : decode cX5_search 79 = .ok (.istore 10, 2) := by decide +kernel
theorem dX5_search_81 : decode cX5_search 81 = .ok (.iload 10, 2) := by decide +kernel
theorem dX5_search_83 : decode cX5_search 83 = .ok (.bipush 42, 2) := by decide +kernel
theorem dX5_search_85 : decode cX5_search 85 = .ok (.if_icmp .ge 55, 3) := by decide +kernel
theorem dX5_search_88 : decode cX5_search 88 = .ok (.iload 9, 2) := by decide +kernel
theorem dX5_search_90 : decode cX5_search 90 = .ok (.iconst (-1), 1) := by decide +kernel
theorem dX5_search_91 : decode cX5_search 91 = .ok (.if_icmp .eq 49, 3) := by decide +kernel
theorem dX5_search_94 : decode cX5_search 94 = .ok (.aload_n 0, 1) := by decide +kernel
theorem dX5_search_95 : decode cX5_search 95 = .ok (.aload 7, 2) := by decide +kernel
theorem dX5_search_97 : decode cX5_search 97 = .ok (.iload_n 2, 1) := by decide +kernel
theorem dX5_search_98 : decode cX5_search 98 = .ok (.iload 5, 2) := by decide +kernel
theorem dX5_search_100 : decode cX5_search 100 = .ok (.iload 9, 2) := by decide +kernel
theorem dX5_search_102 : decode cX5_search 102 = .ok (.invokevirtual 178, 3) := by decide +kernel
theorem dX5_search_105 : decode cX5_search 105 = .ok (.ifCond .eq 16, 3) := by decide +kernel
theorem dX5_search_108 : decode cX5_search 108 = .ok (.iload 8, 2) := by decide +kernel
theorem dX5_search_110 : decode cX5_search 110 = .ok (.iload 6, 2) := by decide +kernel
theorem dX5_search_112 : decode cX5_search 112 = .ok (.if_icmp .ne 6, 3) := by decide +kernel
theorem dX5_search_115 : decode cX5_search 115 = .ok (.iload 9, 2) := by decide +kernel
theorem dX5_search_117 : decode cX5_search 117 = .ok (.ireturn, 1) := by decide +kernel
theorem dX5_search_118 : decode cX5_search 118 = .ok (.iinc 8 1, 3) := by decide +kernel
theorem dX5_search_121 : decode cX5_search 121 = .ok (.aload_n 0, 1) := by decide +kernel
theorem dX5_search_122 : decode cX5_search 122 = .ok (.aload 7, 2) := by decide +kernel
theorem dX5_search_124 : decode cX5_search 124 = .ok (.iload_n 3, 1) := by decide +kernel
theorem dX5_search_125 : decode cX5_search 125 = .ok (.iload 4, 2) := by decide +kernel
theorem dX5_search_127 : decode cX5_search 127 = .ok (.iload 9, 2) := by decide +kernel
theorem dX5_search_129 : decode cX5_search 129 = .ok (.invokevirtual 182, 3) := by decide +kernel
theorem dX5_search_132 : decode cX5_search 132 = .ok (.istore 9, 2) := by decide +kernel
theorem dX5_search_134 : decode cX5_search 134 = .ok (.iinc 10 1, 3) := by decide +kernel
theorem dX5_search_137 : decode cX5_search 137 = .ok (.goto (-56), 3) := by decide +kernel
theorem dX5_search_140 : decode cX5_search 140 = .ok (.iconst (-1), 1) := by decide +kernel
theorem dX5_search_141 : decode cX5_search 141 = .ok (.ireturn, 1) := by decide +kernel
set_option maxRecDepth 20000 in
theorem ggX5_isFound_X1_truthFor : GoodIn wsX5_isFound wsX1_truthFor := goodIn_r _ [7, 8, 9, 10, 11, 12, 13, 6, 14, 15, 16, 17, 18, 19, 20, 21, 22, 23, 24, 25, 26, 27, 28, 29, 30, 31, 32, 33, 34, 35, 36, 37, 38, 39, 40, 41, 42, 43, 44, 45, 46, 47, 65, 66, 67, 68, 69, 70, 71, 72, 73, 74, 75, 76, 77, 78, 79, 80, 81, 82] (by decide +kernel) (by decide +kernel)
set_option maxRecDepth 20000 in
theorem gX5_isFound_X1_truthFor : GoodIn wsX5_isFound (wsV RX5 165 RX1 yX1_truthFor wsX1_truthFor) := goodIn_app (goodIn_of _ (by decide +kernel)) ggX5_isFound_X1_truthFor
set_option maxRecDepth 20000 in
theorem ggX5_isFound_X3_rightThatCounts : GoodIn wsX5_isFound wsX3_rightThatCounts := goodIn_r _ [52, 53, 22, 23, 24, 54, 55, 56, 18, 57, 58, 83, 84, 70, 71, 72, 73, 74, 75, 76, 77, 78, 79, 80] (by decide +kernel) (by decide +kernel)
set_option maxRecDepth 20000 in
theorem gX5_isFound_X3_rightThatCounts : GoodIn wsX5_isFound (wsV RX5 186 RX3 yX3_rightThatCounts wsX3_rightThatCounts) := goodIn_app (goodIn_of _ (by decide +kernel)) ggX5_isFound_X3_rightThatCounts
theorem dX5_isFound_0 : decode cX5_isFound 0 = .ok (.aload_n 0, 1) := by decide +kernel
theorem dX5_isFound_1 : decode cX5_isFound 1 = .ok (.getfield 45, 3) := by decide +kernel
theorem dX5_isFound_4 : decode cX5_isFound 4 = .ok (.iload_n 3, 1) := by decide +kernel
theorem dX5_isFound_5 : decode cX5_isFound 5 = .ok (.aload_n 1, 1) := by decide +kernel
theorem dX5_isFound_6 : decode cX5_isFound 6 = .ok (.iload 4, 2) := by decide +kernel
theorem dX5_isFound_8 : decode cX5_isFound 8 = .ok (.invokevirtual 165, 3) := by decide +kernel
theorem dX5_isFound_11 : decode cX5_isFound 11 = .ok (.iconst 1, 1) := by decide +kernel
theorem dX5_isFound_12 : decode cX5_isFound 12 = .ok (.if_icmp .ne 21, 3) := by decide +kernel
theorem dX5_isFound_15 : decode cX5_isFound 15 = .ok (.aload_n 0, 1) := by decide +kernel
theorem dX5_isFound_16 : decode cX5_isFound 16 = .ok (.getfield 38, 3) := by decide +kernel
theorem dX5_isFound_19 : decode cX5_isFound 19 = .ok (.iload_n 2, 1) := by decide +kernel
theorem dX5_isFound_20 : decode cX5_isFound 20 = .ok (.aload_n 1, 1) := by decide +kernel
theorem dX5_isFound_21 : decode cX5_isFound 21 = .ok (.iload 4, 2) := by decide +kernel
theorem dX5_isFound_23 : decode cX5_isFound 23 = .ok (.invokevirtual 186, 3) := by decide +kernel
theorem dX5_isFound_26 : decode cX5_isFound 26 = .ok (.ifCond .ne 7, 3) := by decide +kernel
theorem dX5_isFound_29 : decode cX5_isFound 29 = .ok (.iconst 1, 1) := by decide +kernel
theorem dX5_isFound_30 : decode cX5_isFound 30 = .ok (.goto 4, 3) := by decide +kernel
theorem dX5_isFound_33 : decode cX5_isFound 33 = .ok (.iconst 0, 1) := by decide +kernel
theorem dX5_isFound_34 : decode cX5_isFound 34 = .ok (.ireturn, 1) := by decide +kernel
set_option maxRecDepth 20000 in
theorem ggX5_nextInScope_X4_orderUnderParent : GoodIn wsX5_nextInScope wsX4_orderUnderParent := goodIn_r _ [6, 7, 8, 9, 5, 10, 11, 12, 13, 14, 42, 43, 44, 45, 46, 47, 48, 49, 50, 51, 52] (by decide +kernel) (by decide +kernel)
set_option maxRecDepth 20000 in
theorem gX5_nextInScope_X4_orderUnderParent : GoodIn wsX5_nextInScope (wsV RX5 189 RX4 yX4_orderUnderParent wsX4_orderUnderParent) := goodIn_app (goodIn_of _ (by decide +kernel)) ggX5_nextInScope_X4_orderUnderParent
set_option maxRecDepth 20000 in
theorem ggX5_nextInScope_X4_childAfter : GoodIn wsX5_nextInScope wsX4_childAfter := goodIn_r _ [18, 19, 20, 21, 22, 23, 24, 25, 26, 3, 4, 5, 6, 7, 8, 9, 10, 11, 12, 13, 14, 42, 43, 44, 45, 46, 47, 48, 49, 50, 51, 52, 53, 54] (by decide +kernel) (by decide +kernel)
set_option maxRecDepth 20000 in
theorem gX5_nextInScope_X4_childAfter : GoodIn wsX5_nextInScope (wsV RX5 174 RX4 yX4_childAfter wsX4_childAfter) := goodIn_app (goodIn_of _ (by decide +kernel)) ggX5_nextInScope_X4_childAfter
set_option maxRecDepth 20000 in
theorem ggX5_nextInScope_X4_entryAfter : GoodIn wsX5_nextInScope wsX4_entryAfter := goodIn_r _ [30, 31, 16, 17, 5, 18, 19, 20, 21, 22, 23, 24, 25, 26, 3, 4, 6, 7, 8, 9, 10, 11, 12, 13, 14, 32, 33, 34, 35, 42, 43, 44, 45, 46, 47, 48, 49, 50, 51, 52, 53, 54] (by decide +kernel) (by decide +kernel)
set_option maxRecDepth 20000 in
theorem gX5_nextInScope_X4_entryAfter : GoodIn wsX5_nextInScope (wsV RX5 192 RX4 yX4_entryAfter wsX4_entryAfter) := goodIn_app (goodIn_of _ (by decide +kernel)) ggX5_nextInScope_X4_entryAfter
theorem dX5_nextInScope_0 : decode cX5_nextInScope 0 = .ok (.iload_n 3, 1) := by decide +kernel
theorem dX5_nextInScope_1 : decode cX5_nextInScope 1 = .ok (.lookupswitch 55 #[(1, 27), (2, 43)], 27) := by decide +kernel
theorem dX5_nextInScope_28 : decode cX5_nextInScope 28 = .ok (.aload_n 1, 1) := by decide +kernel
theorem dX5_nextInScope_29 : decode cX5_nextInScope 29 = .ok (.iload_n 2, 1) := by decide +kernel
theorem dX5_nextInScope_30 : decode cX5_nextInScope 30 = .ok (.aload_n 1, 1) := by decide +kernel
theorem dX5_nextInScope_31 : decode cX5_nextInScope 31 = .ok (.iload 4, 2) := by decide +kernel
theorem dX5_nextInScope_33 : decode cX5_nextInScope 33 = .ok (.invokevirtual 189, 3) := by decide +kernel
theorem dX5_nextInScope_36 : decode cX5_nextInScope 36 = .ok (.aload_n 0, 1) := by decide +kernel
theorem dX5_nextInScope_37 : decode cX5_nextInScope 37 = .ok (.getfield 38, 3) := by decide +kernel
theorem dX5_nextInScope_40 : decode cX5_nextInScope 40 = .ok (.invokevirtual 174, 3) := by decide +kernel
theorem dX5_nextInScope_43 : decode cX5_nextInScope 43 = .ok (.ireturn, 1) := by decide +kernel
theorem dX5_nextInScope_44 : decode cX5_nextInScope 44 = .ok (.aload_n 1, 1) := by decide +kernel
theorem dX5_nextInScope_45 : decode cX5_nextInScope 45 = .ok (.iload 4, 2) := by decide +kernel
theorem dX5_nextInScope_47 : decode cX5_nextInScope 47 = .ok (.iload_n 2, 1) := by decide +kernel
theorem dX5_nextInScope_48 : decode cX5_nextInScope 48 = .ok (.aload_n 0, 1) := by decide +kernel
theorem dX5_nextInScope_49 : decode cX5_nextInScope 49 = .ok (.getfield 38, 3) := by decide +kernel
theorem dX5_nextInScope_52 : decode cX5_nextInScope 52 = .ok (.invokevirtual 192, 3) := by decide +kernel
theorem dX5_nextInScope_55 : decode cX5_nextInScope 55 = .ok (.ireturn, 1) := by decide +kernel
theorem dX5_nextInScope_56 : decode cX5_nextInScope 56 = .ok (.iconst (-1), 1) := by decide +kernel
theorem dX5_nextInScope_57 : decode cX5_nextInScope 57 = .ok (.ireturn, 1) := by decide +kernel
set_option maxRecDepth 20000 in
theorem ggX5_treeOf_X5_checkIndex : GoodIn wsX5_treeOf wsX5_checkIndex := goodIn_ca (goodIn_r _ [6, 7, 8] (by decide +kernel) (by decide +kernel)) (goodIn_sub (fun _ h => List.mem_cons_of_mem _ (List.mem_append_right _ h)) (by decide +kernel))
set_option maxRecDepth 20000 in
theorem gX5_treeOf_X5_checkIndex : GoodIn wsX5_treeOf (va_wsS RX5 49 yX5_checkIndex wsX5_checkIndex) := goodIn_app (goodIn_of _ (by decide +kernel)) ggX5_treeOf_X5_checkIndex
theorem dX5_treeOf_0 : decode cX5_treeOf 0 = .ok (.iload_n 1, 1) := by decide +kernel
theorem dX5_treeOf_1 : decode cX5_treeOf 1 = .ok (.iconst 2, 1) := by decide +kernel
theorem dX5_treeOf_2 : decode cX5_treeOf 2 = .ok (.invokestatic 49, 3) := by decide +kernel
theorem dX5_treeOf_5 : decode cX5_treeOf 5 = .ok (.iload_n 1, 1) := by decide +kernel
theorem dX5_treeOf_6 : decode cX5_treeOf 6 = .ok (.ifCond .ne 10, 3) := by decide +kernel
theorem dX5_treeOf_9 : decode cX5_treeOf 9 = .ok (.aload_n 0, 1) := by decide +kernel
theorem dX5_treeOf_10 : decode cX5_treeOf 10 = .ok (.getfield 28, 3) := by decide +kernel
theorem dX5_treeOf_13 : decode cX5_treeOf 13 = .ok (.goto 7, 3) := by decide +kernel
theorem dX5_treeOf_16 : decode cX5_treeOf 16 = .ok (.aload_n 0, 1) := by decide +kernel
theorem dX5_treeOf_17 : decode cX5_treeOf 17 = .ok (.getfield 32, 3) := by decide +kernel
theorem dX5_treeOf_20 : decode cX5_treeOf 20 = .ok (.areturn, 1) := by decide +kernel
theorem dX5_checkIndex_0 : decode cX5_checkIndex 0 = .ok (.iload_n 0, 1) := by decide +kernel
theorem dX5_checkIndex_1 : decode cX5_checkIndex 1 = .ok (.ifCond .lt 8, 3) := by decide +kernel
theorem dX5_checkIndex_4 : decode cX5_checkIndex 4 = .ok (.iload_n 0, 1) := by decide +kernel
theorem dX5_checkIndex_5 : decode cX5_checkIndex 5 = .ok (.iload_n 1, 1) := by decide +kernel
theorem dX5_checkIndex_6 : decode cX5_checkIndex 6 = .ok (.if_icmp .lt 13, 3) := by decide +kernel
theorem dX5_checkIndex_9 : decode cX5_checkIndex 9 = .ok (.new 169, 3) := by decide +kernel
theorem dX5_checkIndex_12 : decode cX5_checkIndex 12 = .ok (.dup, 1) := by decide +kernel
theorem dX5_checkIndex_13 : decode cX5_checkIndex 13 = .ok (.ldc 195, 2) := by decide +kernel
theorem dX5_checkIndex_15 : decode cX5_checkIndex 15 = .ok (.invokespecial 173, 3) := by decide +kernel
theorem dX5_checkIndex_18 : decode cX5_checkIndex 18 = .ok (.athrow, 1) := by decide +kernel
theorem dX5_checkIndex_19 : decode cX5_checkIndex 19 = .ok (.return_, 1) := by decide +kernel
set_option maxRecDepth 20000 in
theorem ggX5_checkEntry_X4_has : GoodIn wsX5_checkEntry wsX4_has := goodIn_r _ [7, 8, 9, 10, 11, 12, 13, 14, 15, 16, 17, 18, 19] (by decide +kernel) (by decide +kernel)
set_option maxRecDepth 20000 in
theorem gX5_checkEntry_X4_has : GoodIn wsX5_checkEntry (wsV RX5 135 RX4 yX4_has wsX4_has) := goodIn_app (goodIn_of _ (by decide +kernel)) ggX5_checkEntry_X4_has
theorem dX5_checkEntry_0 : decode cX5_checkEntry 0 = .ok (.aload_n 0, 1) := by decide +kernel
theorem dX5_checkEntry_1 : decode cX5_checkEntry 1 = .ok (.iload_n 1, 1) := by decide +kernel
theorem dX5_checkEntry_2 : decode cX5_checkEntry 2 = .ok (.invokevirtual 135, 3) := by decide +kernel
theorem dX5_checkEntry_5 : decode cX5_checkEntry 5 = .ok (.ifCond .ne 13, 3) := by decide +kernel
theorem dX5_checkEntry_8 : decode cX5_checkEntry 8 = .ok (.new 169, 3) := by decide +kernel
theorem dX5_checkEntry_11 : decode cX5_checkEntry 11 = .ok (.dup, 1) := by decide +kernel
theorem dX5_checkEntry_12 : decode cX5_checkEntry 12 = .ok (.ldc 197, 2) := by decide +kernel
theorem dX5_checkEntry_14 : decode cX5_checkEntry 14 = .ok (.invokespecial 173, 3) := by decide +kernel
theorem dX5_checkEntry_17 : decode cX5_checkEntry 17 = .ok (.athrow, 1) := by decide +kernel
theorem dX5_checkEntry_18 : decode cX5_checkEntry 18 = .ok (.return_, 1) := by decide +kernel
theorem dX5_checkArgument_0 : decode cX5_checkArgument 0 = .ok (.iload_n 0, 1) := by decide +kernel
theorem dX5_checkArgument_1 : decode cX5_checkArgument 1 = .ok (.iload_n 1, 1) := by decide +kernel
theorem dX5_checkArgument_2 : decode cX5_checkArgument 2 = .ok (.if_icmp .lt 8, 3) := by decide +kernel
theorem dX5_checkArgument_5 : decode cX5_checkArgument 5 = .ok (.iload_n 0, 1) := by decide +kernel
theorem dX5_checkArgument_6 : decode cX5_checkArgument 6 = .ok (.iload_n 2, 1) := by decide +kernel
theorem dX5_checkArgument_7 : decode cX5_checkArgument 7 = .ok (.if_icmp .le 13, 3) := by decide +kernel
theorem dX5_checkArgument_10 : decode cX5_checkArgument 10 = .ok (.new 199, 3) := by decide +kernel
theorem dX5_checkArgument_13 : decode cX5_checkArgument 13 = .ok (.dup, 1) := by decide +kernel
theorem dX5_checkArgument_14 : decode cX5_checkArgument 14 = .ok (.ldc 201, 2) := by decide +kernel
theorem dX5_checkArgument_16 : decode cX5_checkArgument 16 = .ok (.invokespecial 203, 3) := by decide +kernel
theorem dX5_checkArgument_19 : decode cX5_checkArgument 19 = .ok (.athrow, 1) := by decide +kernel
theorem dX5_checkArgument_20 : decode cX5_checkArgument 20 = .ok (.return_, 1) := by decide +kernel
theorem dX5_checkRoomForChange_0 : decode cX5_checkRoomForChange 0 = .ok (.aload_n 0, 1) := by decide +kernel
theorem dX5_checkRoomForChange_1 : decode cX5_checkRoomForChange 1 = .ok (.getfield 19, 3) := by decide +kernel
theorem dX5_checkRoomForChange_4 : decode cX5_checkRoomForChange 4 = .ok (.getfield 57, 3) := by decide +kernel
theorem dX5_checkRoomForChange_7 : decode cX5_checkRoomForChange 7 = .ok (.bipush 40, 2) := by decide +kernel
theorem dX5_checkRoomForChange_9 : decode cX5_checkRoomForChange 9 = .ok (.if_icmp .lt 13, 3) := by decide +kernel
theorem dX5_checkRoomForChange_12 : decode cX5_checkRoomForChange 12 = .ok (.new 61, 3) := by decide +kernel
theorem dX5_checkRoomForChange_15 : decode cX5_checkRoomForChange 15 = .ok (.dup, 1) := by decide +kernel
theorem dX5_checkRoomForChange_16 : decode cX5_checkRoomForChange 16 = .ok (.ldc 204, 2) := by decide +kernel
theorem dX5_checkRoomForChange_18 : decode cX5_checkRoomForChange 18 = .ok (.invokespecial 65, 3) := by decide +kernel
theorem dX5_checkRoomForChange_21 : decode cX5_checkRoomForChange 21 = .ok (.athrow, 1) := by decide +kernel
theorem dX5_checkRoomForChange_22 : decode cX5_checkRoomForChange 22 = .ok (.return_, 1) := by decide +kernel
theorem dX5_checkRoomForFilter_0 : decode cX5_checkRoomForFilter 0 = .ok (.aload_n 0, 1) := by decide +kernel
theorem dX5_checkRoomForFilter_1 : decode cX5_checkRoomForFilter 1 = .ok (.getfield 45, 3) := by decide +kernel
theorem dX5_checkRoomForFilter_4 : decode cX5_checkRoomForFilter 4 = .ok (.getfield 164, 3) := by decide +kernel
theorem dX5_checkRoomForFilter_7 : decode cX5_checkRoomForFilter 7 = .ok (.bipush 20, 2) := by decide +kernel
theorem dX5_checkRoomForFilter_9 : decode cX5_checkRoomForFilter 9 = .ok (.if_icmp .lt 13, 3) := by decide +kernel
theorem dX5_checkRoomForFilter_12 : decode cX5_checkRoomForFilter 12 = .ok (.new 61, 3) := by decide +kernel
theorem dX5_checkRoomForFilter_15 : decode cX5_checkRoomForFilter 15 = .ok (.dup, 1) := by decide +kernel
theorem dX5_checkRoomForFilter_16 : decode cX5_checkRoomForFilter 16 = .ok (.ldc 206, 2) := by decide +kernel
theorem dX5_checkRoomForFilter_18 : decode cX5_checkRoomForFilter 18 = .ok (.invokespecial 65, 3) := by decide +kernel
theorem dX5_checkRoomForFilter_21 : decode cX5_checkRoomForFilter 21 = .ok (.athrow, 1) := by decide +kernel
theorem dX5_checkRoomForFilter_22 : decode cX5_checkRoomForFilter 22 = .ok (.return_, 1) := by decide +kernel
theorem dX5_checkIsNotFixed_0 : decode cX5_checkIsNotFixed 0 = .ok (.iload_n 0, 1) := by decide +kernel
theorem dX5_checkIsNotFixed_1 : decode cX5_checkIsNotFixed 1 = .ok (.ifCond .eq 8, 3) := by decide +kernel
theorem dX5_checkIsNotFixed_4 : decode cX5_checkIsNotFixed 4 = .ok (.iload_n 0, 1) := by decide +kernel
theorem dX5_checkIsNotFixed_5 : decode cX5_checkIsNotFixed 5 = .ok (.iconst 1, 1) := by decide +kernel
theorem dX5_checkIsNotFixed_6 : decode cX5_checkIsNotFixed 6 = .ok (.if_icmp .ne 13, 3) := by decide +kernel
theorem dX5_checkIsNotFixed_9 : decode cX5_checkIsNotFixed 9 = .ok (.new 61, 3) := by decide +kernel
theorem dX5_checkIsNotFixed_12 : decode cX5_checkIsNotFixed 12 = .ok (.dup, 1) := by decide +kernel
theorem dX5_checkIsNotFixed_13 : decode cX5_checkIsNotFixed 13 = .ok (.ldc 208, 2) := by decide +kernel
theorem dX5_checkIsNotFixed_15 : decode cX5_checkIsNotFixed 15 = .ok (.invokespecial 65, 3) := by decide +kernel
theorem dX5_checkIsNotFixed_18 : decode cX5_checkIsNotFixed 18 = .ok (.athrow, 1) := by decide +kernel
theorem dX5_checkIsNotFixed_19 : decode cX5_checkIsNotFixed 19 = .ok (.return_, 1) := by decide +kernel
set_option maxRecDepth 20000 in
theorem ggX5_checkLabelIsFree_X4_childWithLabelLike : GoodIn wsX5_checkLabelIsFree wsX4_childWithLabelLike := goodIn_r _ [7, 8, 9, 10, 11, 6, 12, 13, 14, 15, 16, 17, 18, 19, 20, 21, 22, 23] (by decide +kernel) (by decide +kernel)
set_option maxRecDepth 20000 in
theorem gX5_checkLabelIsFree_X4_childWithLabelLike : GoodIn wsX5_checkLabelIsFree (wsV RX5 144 RX4 yX4_childWithLabelLike wsX4_childWithLabelLike) := goodIn_app (goodIn_of _ (by decide +kernel)) ggX5_checkLabelIsFree_X4_childWithLabelLike
theorem dX5_checkLabelIsFree_0 : decode cX5_checkLabelIsFree 0 = .ok (.aload_n 0, 1) := by decide +kernel
theorem dX5_checkLabelIsFree_1 : decode cX5_checkLabelIsFree 1 = .ok (.iload_n 1, 1) := by decide +kernel
theorem dX5_checkLabelIsFree_2 : decode cX5_checkLabelIsFree 2 = .ok (.iload_n 2, 1) := by decide +kernel
theorem dX5_checkLabelIsFree_3 : decode cX5_checkLabelIsFree 3 = .ok (.iload_n 3, 1) := by decide +kernel
theorem dX5_checkLabelIsFree_4 : decode cX5_checkLabelIsFree 4 = .ok (.invokevirtual 144, 3) := by decide +kernel
theorem dX5_checkLabelIsFree_7 : decode cX5_checkLabelIsFree 7 = .ok (.iconst (-1), 1) := by decide +kernel
theorem dX5_checkLabelIsFree_8 : decode cX5_checkLabelIsFree 8 = .ok (.if_icmp .eq 13, 3) := by decide +kernel
theorem dX5_checkLabelIsFree_11 : decode cX5_checkLabelIsFree 11 = .ok (.new 61, 3) := by decide +kernel
theorem dX5_checkLabelIsFree_14 : decode cX5_checkLabelIsFree 14 = .ok (.dup, 1) := by decide +kernel
theorem dX5_checkLabelIsFree_15 : decode cX5_checkLabelIsFree 15 = .ok (.ldc 210, 2) := by decide +kernel
theorem dX5_checkLabelIsFree_17 : decode cX5_checkLabelIsFree 17 = .ok (.invokespecial 65, 3) := by decide +kernel
theorem dX5_checkLabelIsFree_20 : decode cX5_checkLabelIsFree 20 = .ok (.athrow, 1) := by decide +kernel
theorem dX5_checkLabelIsFree_21 : decode cX5_checkLabelIsFree 21 = .ok (.return_, 1) := by decide +kernel
theorem dX5_at_0 : decode cX5_at 0 = .ok (.iload_n 1, 1) := by decide +kernel
theorem dX5_at_1 : decode cX5_at 1 = .ok (.ifCond .lt 15, 3) := by decide +kernel
theorem dX5_at_4 : decode cX5_at 4 = .ok (.iload_n 1, 1) := by decide +kernel
theorem dX5_at_5 : decode cX5_at 5 = .ok (.aload_n 0, 1) := by decide +kernel
theorem dX5_at_6 : decode cX5_at 6 = .ok (.arraylength, 1) := by decide +kernel
theorem dX5_at_7 : decode cX5_at 7 = .ok (.if_icmp .ge 9, 3) := by decide +kernel
theorem dX5_at_10 : decode cX5_at 10 = .ok (.aload_n 0, 1) := by decide +kernel
theorem dX5_at_11 : decode cX5_at 11 = .ok (.iload_n 1, 1) := by decide +kernel
theorem dX5_at_12 : decode cX5_at 12 = .ok (.iaload, 1) := by decide +kernel
theorem dX5_at_13 : decode cX5_at 13 = .ok (.goto 4, 3) := by decide +kernel
theorem dX5_at_16 : decode cX5_at 16 = .ok (.iconst (-1), 1) := by decide +kernel
theorem dX5_at_17 : decode cX5_at 17 = .ok (.ireturn, 1) := by decide +kernel
theorem dX5_put_0 : decode cX5_put 0 = .ok (.iload_n 1, 1) := by decide +kernel
theorem dX5_put_1 : decode cX5_put 1 = .ok (.ifCond .lt 13, 3) := by decide +kernel
theorem dX5_put_4 : decode cX5_put 4 = .ok (.iload_n 1, 1) := by decide +kernel
theorem dX5_put_5 : decode cX5_put 5 = .ok (.aload_n 0, 1) := by decide +kernel
theorem dX5_put_6 : decode cX5_put 6 = .ok (.arraylength, 1) := by decide +kernel
theorem dX5_put_7 : decode cX5_put 7 = .ok (.if_icmp .ge 7, 3) := by decide +kernel
theorem dX5_put_10 : decode cX5_put 10 = .ok (.aload_n 0, 1) := by decide +kernel
theorem dX5_put_11 : decode cX5_put 11 = .ok (.iload_n 1, 1) := by decide +kernel
theorem dX5_put_12 : decode cX5_put 12 = .ok (.iload_n 2, 1) := by decide +kernel
theorem dX5_put_13 : decode cX5_put 13 = .ok (.iastore, 1) := by decide +kernel
theorem dX5_put_14 : decode cX5_put 14 = .ok (.return_, 1) := by decide +kernel
end
section
theorem dX6_init_0 : decode cX6_init 0 = .ok (.aload_n 0, 1) := by decide +kernel
theorem dX6_init_1 : decode cX6_init 1 = .ok (.invokespecial 1, 3) := by decide +kernel
theorem dX6_init_4 : decode cX6_init 4 = .ok (.aload_n 0, 1) := by decide +kernel
theorem dX6_init_5 : decode cX6_init 5 = .ok (.iconst 3, 1) := by decide +kernel
theorem dX6_init_6 : decode cX6_init 6 = .ok (.newarray .int, 2) := by decide +kernel
theorem dX6_init_8 : decode cX6_init 8 = .ok (.putfield 7, 3) := by decide +kernel
theorem dX6_init_11 : decode cX6_init 11 = .ok (.aload_n 0, 1) := by decide +kernel
theorem dX6_init_12 : decode cX6_init 12 = .ok (.iconst 3, 1) := by decide +kernel
theorem dX6_init_13 : decode cX6_init 13 = .ok (.newarray .int, 2) := by decide +kernel
theorem dX6_init_15 : decode cX6_init 15 = .ok (.putfield 13, 3) := by decide +kernel
theorem dX6_init_18 : decode cX6_init 18 = .ok (.aload_n 0, 1) := by decide +kernel
theorem dX6_init_19 : decode cX6_init 19 = .ok (.bipush 40, 2) := by decide +kernel
theorem dX6_init_21 : decode cX6_init 21 = .ok (.newarray .int, 2) := by decide +kernel
theorem dX6_init_23 : decode cX6_init 23 = .ok (.putfield 16, 3) := by decide +kernel
theorem dX6_init_26 : decode cX6_init 26 = .ok (.aload_n 0, 1) := by decide +kernel
theorem dX6_init_27 : decode cX6_init 27 = .ok (.bipush 40, 2) := by decide +kernel
theorem dX6_init_29 : decode cX6_init 29 = .ok (.newarray .int, 2) := by decide +kernel
theorem dX6_init_31 : decode cX6_init 31 = .ok (.putfield 19, 3) := by decide +kernel
theorem dX6_init_34 : decode cX6_init 34 = .ok (.aload_n 0, 1) := by decide +kernel
theorem dX6_init_35 : decode cX6_init 35 = .ok (.bipush 40, 2) := by decide +kernel
theorem dX6_init_37 : decode cX6_init 37 = .ok (.newarray .int, 2) := by decide +kernel
theorem dX6_init_39 : decode cX6_init 39 = .ok (.putfield 22, 3) := by decide +kernel
theorem dX6_init_42 : decode cX6_init 42 = .ok (.aload_n 0, 1) := by decide +kernel
theorem dX6_init_43 : decode cX6_init 43 = .ok (.bipush 40, 2) := by decide +kernel
theorem dX6_init_45 : decode cX6_init 45 = .ok (.newarray .int, 2) := by decide +kernel
theorem dX6_init_47 : decode cX6_init 47 = .ok (.putfield 25, 3) := by decide +kernel
theorem dX6_init_50 : decode cX6_init 50 = .ok (.aload_n 0, 1) := by decide +kernel
theorem dX6_init_51 : decode cX6_init 51 = .ok (.bipush 40, 2) := by decide +kernel
theorem dX6_init_53 : decode cX6_init 53 = .ok (.newarray .int, 2) := by decide +kernel
theorem dX6_init_55 : decode cX6_init 55 = .ok (.putfield 28, 3) := by decide +kernel
theorem dX6_init_58 : decode cX6_init 58 = .ok (.aload_n 0, 1) := by decide +kernel
theorem dX6_init_59 : decode cX6_init 59 = .ok (.bipush 40, 2) := by decide +kernel
theorem dX6_init_61 : decode cX6_init 61 = .ok (.newarray .int, 2) := by decide +kernel
theorem dX6_init_63 : decode cX6_init 63 = .ok (.putfield 31, 3) := by decide +kernel
theorem dX6_init_66 : decode cX6_init 66 = .ok (.aload_n 0, 1) := by decide +kernel
theorem dX6_init_67 : decode cX6_init 67 = .ok (.bipush 40, 2) := by decide +kernel
theorem dX6_init_69 : decode cX6_init 69 = .ok (.newarray .int, 2) := by decide +kernel
theorem dX6_init_71 : decode cX6_init 71 = .ok (.putfield 34, 3) := by decide +kernel
theorem dX6_init_74 : decode cX6_init 74 = .ok (.aload_n 0, 1) := by decide +kernel
theorem dX6_init_75 : decode cX6_init 75 = .ok (.bipush 40, 2) := by decide +kernel
theorem dX6_init_77 : decode cX6_init 77 = .ok (.newarray .int, 2) := by decide +kernel
theorem dX6_init_79 : decode cX6_init 79 = .ok (.putfield 37, 3) := by decide +kernel
theorem dX6_init_82 : decode cX6_init 82 = .ok (.aload_n 0, 1) := by decide +kernel
theorem dX6_init_83 : decode cX6_init 83 = .ok (.bipush 40, 2) := by decide +kernel
theorem dX6_init_85 : decode cX6_init 85 = .ok (.newarray .int, 2) := by decide +kernel
theorem dX6_init_87 : decode cX6_init 87 = .ok (.putfield 40, 3) := by decide +kernel
theorem dX6_init_90 : decode cX6_init 90 = .ok (.aload_n 0, 1) := by decide +kernel
theorem dX6_init_91 : decode cX6_init 91 = .ok (.bipush 126, 2) := by decide +kernel
theorem dX6_init_93 : decode cX6_init 93 = .ok (.newarray .int, 2) := by decide +kernel
theorem dX6_init_95 : decode cX6_init 95 = .ok (.putfield 43, 3) := by decide +kernel
theorem dX6_init_98 : decode cX6_init 98 = .ok (.aload_n 0, 1) := by decide +kernel
theorem dX6_init_99 : decode cX6_init 99 = .ok (.bipush 42, 2) := by decide +kernel
theorem dX6_init_101 : decode cX6_init 101 = .ok (.newarray .boolean, 2) := by decide +kernel
theorem dX6_init_103 : decode cX6_init 103 = .ok (.putfield 46, 3) := by decide +kernel
theorem dX6_init_106 : decode cX6_init 106 = .ok (.aload_n 0, 1) := by decide +kernel
theorem dX6_init_107 : decode cX6_init 107 = .ok (.bipush 20, 2) := by decide +kernel
theorem dX6_init_109 : decode cX6_init 109 = .ok (.newarray .int, 2) := by decide +kernel
theorem dX6_init_111 : decode cX6_init 111 = .ok (.putfield 50, 3) := by decide +kernel
theorem dX6_init_114 : decode cX6_init 114 = .ok (.aload_n 0, 1) := by decide +kernel
theorem dX6_init_115 : decode cX6_init 115 = .ok (.bipush 20, 2) := by decide +kernel
theorem dX6_init_117 : decode cX6_init 117 = .ok (.newarray .int, 2) := by decide +kernel
theorem dX6_init_119 : decode cX6_init 119 = .ok (.putfield 53, 3) := by decide +kernel
theorem dX6_init_122 : decode cX6_init 122 = .ok (.aload_n 0, 1) := by decide +kernel
theorem dX6_init_123 : decode cX6_init 123 = .ok (.bipush 20, 2) := by decide +kernel
theorem dX6_init_125 : decode cX6_init 125 = .ok (.newarray .int, 2) := by decide +kernel
theorem dX6_init_127 : decode cX6_init 127 = .ok (.putfield 56, 3) := by decide +kernel
theorem dX6_init_130 : decode cX6_init 130 = .ok (.aload_n 0, 1) := by decide +kernel
theorem dX6_init_131 : decode cX6_init 131 = .ok (.bipush 20, 2) := by decide +kernel
theorem dX6_init_133 : decode cX6_init 133 = .ok (.newarray .int, 2) := by decide +kernel
theorem dX6_init_135 : decode cX6_init 135 = .ok (.putfield 59, 3) := by decide +kernel
theorem dX6_init_138 : decode cX6_init 138 = .ok (.aload_n 0, 1) := by decide +kernel
theorem dX6_init_139 : decode cX6_init 139 = .ok (.bipush 42, 2) := by decide +kernel
theorem dX6_init_141 : decode cX6_init 141 = .ok (.newarray .boolean, 2) := by decide +kernel
theorem dX6_init_143 : decode cX6_init 143 = .ok (.putfield 62, 3) := by decide +kernel
theorem dX6_init_146 : decode cX6_init 146 = .ok (.aload_n 0, 1) := by decide +kernel
theorem dX6_init_147 : decode cX6_init 147 = .ok (.bipush 42, 2) := by decide +kernel
theorem dX6_init_149 : decode cX6_init 149 = .ok (.newarray .int, 2) := by decide +kernel
theorem dX6_init_151 : decode cX6_init 151 = .ok (.putfield 65, 3) := by decide +kernel
theorem dX6_init_154 : decode cX6_init 154 = .ok (.aload_n 0, 1) := by decide +kernel
theorem dX6_init_155 : decode cX6_init 155 = .ok (.bipush 42, 2) := by decide +kernel
theorem dX6_init_157 : decode cX6_init 157 = .ok (.newarray .int, 2) := by decide +kernel
theorem dX6_init_159 : decode cX6_init 159 = .ok (.putfield 68, 3) := by decide +kernel
theorem dX6_init_162 : decode cX6_init 162 = .ok (.aload_n 0, 1) := by decide +kernel
theorem dX6_init_163 : decode cX6_init 163 = .ok (.bipush 42, 2) := by decide +kernel
theorem dX6_init_165 : decode cX6_init 165 = .ok (.newarray .int, 2) := by decide +kernel
theorem dX6_init_167 : decode cX6_init 167 = .ok (.putfield 71, 3) := by decide +kernel
theorem dX6_init_170 : decode cX6_init 170 = .ok (.aload_n 0, 1) := by decide +kernel
theorem dX6_init_171 : decode cX6_init 171 = .ok (.sipush 168, 3) := by decide +kernel
theorem dX6_init_174 : decode cX6_init 174 = .ok (.newarray .int, 2) := by decide +kernel
theorem dX6_init_176 : decode cX6_init 176 = .ok (.putfield 74, 3) := by decide +kernel
theorem dX6_init_179 : decode cX6_init 179 = .ok (.aload_n 0, 1) := by decide +kernel
theorem dX6_init_180 : decode cX6_init 180 = .ok (.sipush 294, 3) := by decide +kernel
theorem dX6_init_183 : decode cX6_init 183 = .ok (.newarray .int, 2) := by decide +kernel
theorem dX6_init_185 : decode cX6_init 185 = .ok (.putfield 77, 3) := by decide +kernel
theorem dX6_init_188 : decode cX6_init 188 = .ok (.iconst 0, 1) := by decide +kernel
theorem dX6_init_189 : decode cX6_init 189 = .ok (.istore_n 1, 1) := by decide +kernel
theorem dX6_init_190 : decode cX6_init 190 = .ok (.iload_n 1, 1) := by decide +kernel
theorem dX6_init_191 : decode cX6_init 191 = .ok (.iconst 3, 1) := by decide +kernel
theorem dX6_init_192 : decode cX6_init 192 = .ok (.if_icmp .ge 17, 3) := by decide +kernel
theorem dX6_init_195 : decode cX6_init 195 = .ok (.aload_n 0, 1) := by decide +kernel
theorem dX6_init_196 : decode cX6_init 196 = .ok (.getfield 13, 3) := by decide +kernel
theorem dX6_init_199 : decode cX6_init 199 = .ok (.iload_n 1, 1) := by decide +kernel
theorem dX6_init_200 : decode cX6_init 200 = .ok (.bipush 15, 2) := by decide +kernel
theorem dX6_init_202 : decode cX6_init 202 = .ok (.iastore, 1) := by decide +kernel
theorem dX6_init_203 : decode cX6_init 203 = .ok (.iinc 1 1, 3) := by decide +kernel
theorem dX6_init_206 : decode cX6_init 206 = .ok (.goto (-16), 3) := by decide +kernel
theorem dX6_init_209 : decode cX6_init 209 = .ok (.iconst 0, 1) := by decide +kernel
theorem dX6_init_210 : decode cX6_init 210 = .ok (.istore_n 1, 1) := by decide +kernel
theorem dX6_init_211 : decode cX6_init 211 = .ok (.iload_n 1, 1) := by decide +kernel
theorem dX6_init_212 : decode cX6_init 212 = .ok (.bipush 126, 2) := by decide +kernel
theorem dX6_init_214 : decode cX6_init 214 = .ok (.if_icmp .ge 16, 3) := by decide +kernel
theorem dX6_init_217 : decode cX6_init 217 = .ok (.aload_n 0, 1) := by decide +kernel
theorem dX6_init_218 : decode cX6_init 218 = .ok (.getfield 43, 3) := by decide +kernel
theorem dX6_init_221 : decode cX6_init 221 = .ok (.iload_n 1, 1) := by decide +kernel
theorem dX6_init_222 : decode cX6_init 222 = .ok (.iconst (-1), 1) := by decide +kernel
theorem dX6_init_223 : decode cX6_init 223 = .ok (.iastore, 1) := by decide +kernel
theorem dX6_init_224 : decode cX6_init 224 = .ok (.iinc 1 1, 3) := by decide +kernel
theorem dX6_init_227 : decode cX6_init 227 = .ok (.goto (-16), 3) := by decide +kernel
theorem dX6_init_230 : decode cX6_init 230 = .ok (.return_, 1) := by decide +kernel
theorem dX6_thrown_0 : decode cX6_thrown 0 = .ok (.aload_n 0, 1) := by decide +kernel
theorem dX6_thrown_1 : decode cX6_thrown 1 = .ok (.getfield 80, 3) := by decide +kernel
theorem dX6_thrown_4 : decode cX6_thrown 4 = .ok (.ireturn, 1) := by decide +kernel
theorem dX6_isIn_0 : decode cX6_isIn 0 = .ok (.iload_n 0, 1) := by decide +kernel
theorem dX6_isIn_1 : decode cX6_isIn 1 = .ok (.iload_n 1, 1) := by decide +kernel
theorem dX6_isIn_2 : decode cX6_isIn 2 = .ok (.if_icmp .lt 12, 3) := by decide +kernel
theorem dX6_isIn_5 : decode cX6_isIn 5 = .ok (.iload_n 0, 1) := by decide +kernel
theorem dX6_isIn_6 : decode cX6_isIn 6 = .ok (.iload_n 2, 1) := by decide +kernel
theorem dX6_isIn_7 : decode cX6_isIn 7 = .ok (.if_icmp .gt 7, 3) := by decide +kernel
theorem dX6_isIn_10 : decode cX6_isIn 10 = .ok (.iconst 1, 1) := by decide +kernel
theorem dX6_isIn_11 : decode cX6_isIn 11 = .ok (.goto 4, 3) := by decide +kernel
theorem dX6_isIn_14 : decode cX6_isIn 14 = .ok (.iconst 0, 1) := by decide +kernel
theorem dX6_isIn_15 : decode cX6_isIn 15 = .ok (.ireturn, 1) := by decide +kernel
set_option maxRecDepth 20000 in
theorem ggX6_isMaster_X6_isIn : GoodIn wsX6_isMaster wsX6_isIn := goodIn_r _ [4] (by decide +kernel) (by decide +kernel)
set_option maxRecDepth 20000 in
theorem gX6_isMaster_X6_isIn : GoodIn wsX6_isMaster (va_wsS RX6 84 yX6_isIn wsX6_isIn) := goodIn_app (goodIn_of _ (by decide +kernel)) ggX6_isMaster_X6_isIn
theorem dX6_isMaster_0 : decode cX6_isMaster 0 = .ok (.iload_n 0, 1) := by decide +kernel
theorem dX6_isMaster_1 : decode cX6_isMaster 1 = .ok (.iconst 0, 1) := by decide +kernel
theorem dX6_isMaster_2 : decode cX6_isMaster 2 = .ok (.iconst 1, 1) := by decide +kernel
theorem dX6_isMaster_3 : decode cX6_isMaster 3 = .ok (.invokestatic 84, 3) := by decide +kernel
theorem dX6_isMaster_6 : decode cX6_isMaster 6 = .ok (.ireturn, 1) := by decide +kernel
set_option maxRecDepth 20000 in
theorem ggX6_setClass_X6_isIn : GoodIn wsX6_setClass wsX6_isIn := goodIn_r _ [8] (by decide +kernel) (by decide +kernel)
set_option maxRecDepth 20000 in
theorem gX6_setClass_X6_isIn : GoodIn wsX6_setClass (va_wsS RX6 84 yX6_isIn wsX6_isIn) := goodIn_app (goodIn_of _ (by decide +kernel)) ggX6_setClass_X6_isIn
theorem dX6_setClass_0 : decode cX6_setClass 0 = .ok (.iload_n 2, 1) := by decide +kernel
theorem dX6_setClass_1 : decode cX6_setClass 1 = .ok (.iconst 0, 1) := by decide +kernel
theorem dX6_setClass_2 : decode cX6_setClass 2 = .ok (.bipush 15, 2) := by decide +kernel
theorem dX6_setClass_4 : decode cX6_setClass 4 = .ok (.invokestatic 84, 3) := by decide +kernel
theorem dX6_setClass_7 : decode cX6_setClass 7 = .ok (.ifCond .eq 17, 3) := by decide +kernel
theorem dX6_setClass_10 : decode cX6_setClass 10 = .ok (.iload_n 3, 1) := by decide +kernel
theorem dX6_setClass_11 : decode cX6_setClass 11 = .ok (.iconst 0, 1) := by decide +kernel
theorem dX6_setClass_12 : decode cX6_setClass 12 = .ok (.bipush 15, 2) := by decide +kernel
theorem dX6_setClass_14 : decode cX6_setClass 14 = .ok (.invokestatic 84, 3) := by decide +kernel
theorem dX6_setClass_17 : decode cX6_setClass 17 = .ok (.ifCond .eq 7, 3) := by decide +kernel
theorem dX6_setClass_20 : decode cX6_setClass 20 = .ok (.iconst 1, 1) := by decide +kernel
theorem dX6_setClass_21 : decode cX6_setClass 21 = .ok (.goto 4, 3) := by decide +kernel
theorem dX6_setClass_24 : decode cX6_setClass 24 = .ok (.iconst 0, 1) := by decide +kernel
theorem dX6_setClass_25 : decode cX6_setClass 25 = .ok (.istore 4, 2) := by decide +kernel
theorem dX6_setClass_27 : decode cX6_setClass 27 = .ok (.aload_n 0, 1) := by decide +kernel
theorem dX6_setClass_28 : decode cX6_setClass 28 = .ok (.iload_n 1, 1) := by decide +kernel
theorem dX6_setClass_29 : decode cX6_setClass 29 = .ok (.iconst 0, 1) := by decide +kernel
theorem dX6_setClass_30 : decode cX6_setClass 30 = .ok (.iconst 2, 1) := by decide +kernel
theorem dX6_setClass_31 : decode cX6_setClass 31 = .ok (.invokestatic 84, 3) := by decide +kernel
theorem dX6_setClass_34 : decode cX6_setClass 34 = .ok (.ifCond .ne 7, 3) := by decide +kernel
theorem dX6_setClass_37 : decode cX6_setClass 37 = .ok (.iconst 1, 1) := by decide +kernel
theorem dX6_setClass_38 : decode cX6_setClass 38 = .ok (.goto 24, 3) := by decide +kernel
theorem dX6_setClass_41 : decode cX6_setClass 41 = .ok (.iload 4, 2) := by decide +kernel
theorem dX6_setClass_43 : decode cX6_setClass 43 = .ok (.ifCond .ne 7, 3) := by decide +kernel
theorem dX6_setClass_46 : decode cX6_setClass 46 = .ok (.iconst 2, 1) := by decide +kernel
theorem dX6_setClass_47 : decode cX6_setClass 47 = .ok (.goto 15, 3) := by decide +kernel
theorem dX6_setClass_50 : decode cX6_setClass 50 = .ok (.aload_n 0, 1) := by decide +kernel
theorem dX6_setClass_51 : decode cX6_setClass 51 = .ok (.getfield 88, 3) := by decide +kernel
theorem dX6_setClass_54 : decode cX6_setClass 54 = .ok (.ifCond .le 7, 3) := by decide +kernel
theorem dX6_setClass_57 : decode cX6_setClass 57 = .ok (.iconst 3, 1) := by decide +kernel
theorem dX6_setClass_58 : decode cX6_setClass 58 = .ok (.goto 4, 3) := by decide +kernel
theorem dX6_setClass_61 : decode cX6_setClass 61 = .ok (.iconst 0, 1) := by decide +kernel
theorem dX6_setClass_62 : decode cX6_setClass 62 = .ok (.putfield 80, 3) := by decide +kernel
theorem dX6_setClass_65 : decode cX6_setClass 65 = .ok (.aload_n 0, 1) := by decide +kernel
theorem dX6_setClass_66 : decode cX6_setClass 66 = .ok (.getfield 80, 3) := by decide +kernel
theorem dX6_setClass_69 : decode cX6_setClass 69 = .ok (.ifCond .ne 19, 3) := by decide +kernel
theorem dX6_setClass_72 : decode cX6_setClass 72 = .ok (.aload_n 0, 1) := by decide +kernel
theorem dX6_setClass_73 : decode cX6_setClass 73 = .ok (.getfield 7, 3) := by decide +kernel
theorem dX6_setClass_76 : decode cX6_setClass 76 = .ok (.iload_n 1, 1) := by decide +kernel
theorem dX6_setClass_77 : decode cX6_setClass 77 = .ok (.iload_n 2, 1) := by decide +kernel
theorem dX6_setClass_78 : decode cX6_setClass 78 = .ok (.iastore, 1) := by decide +kernel
theorem dX6_setClass_79 : decode cX6_setClass 79 = .ok (.aload_n 0, 1) := by decide +kernel
theorem dX6_setClass_80 : decode cX6_setClass 80 = .ok (.getfield 13, 3) := by decide +kernel
theorem dX6_setClass_83 : decode cX6_setClass 83 = .ok (.iload_n 1, 1) := by decide +kernel
theorem dX6_setClass_84 : decode cX6_setClass 84 = .ok (.iload_n 3, 1) := by decide +kernel
theorem dX6_setClass_85 : decode cX6_setClass 85 = .ok (.iload_n 2, 1) := by decide +kernel
theorem dX6_setClass_86 : decode cX6_setClass 86 = .ok (.ior, 1) := by decide +kernel
theorem dX6_setClass_87 : decode cX6_setClass 87 = .ok (.iastore, 1) := by decide +kernel
theorem dX6_setClass_88 : decode cX6_setClass 88 = .ok (.return_, 1) := by decide +kernel
theorem dX6_allowed_0 : decode cX6_allowed 0 = .ok (.aload_n 0, 1) := by decide +kernel
theorem dX6_allowed_1 : decode cX6_allowed 1 = .ok (.getfield 13, 3) := by decide +kernel
theorem dX6_allowed_4 : decode cX6_allowed 4 = .ok (.aload_n 0, 1) := by decide +kernel
theorem dX6_allowed_5 : decode cX6_allowed 5 = .ok (.getfield 71, 3) := by decide +kernel
theorem dX6_allowed_8 : decode cX6_allowed 8 = .ok (.iload_n 1, 1) := by decide +kernel
theorem dX6_allowed_9 : decode cX6_allowed 9 = .ok (.iaload, 1) := by decide +kernel
theorem dX6_allowed_10 : decode cX6_allowed 10 = .ok (.iaload, 1) := by decide +kernel
theorem dX6_allowed_11 : decode cX6_allowed 11 = .ok (.iload_n 2, 1) := by decide +kernel
theorem dX6_allowed_12 : decode cX6_allowed 12 = .ok (.ishr, 1) := by decide +kernel
theorem dX6_allowed_13 : decode cX6_allowed 13 = .ok (.iconst 1, 1) := by decide +kernel
theorem dX6_allowed_14 : decode cX6_allowed 14 = .ok (.iand, 1) := by decide +kernel
theorem dX6_allowed_15 : decode cX6_allowed 15 = .ok (.iconst 1, 1) := by decide +kernel
theorem dX6_allowed_16 : decode cX6_allowed 16 = .ok (.if_icmp .ne 7, 3) := by decide +kernel
theorem dX6_allowed_19 : decode cX6_allowed 19 = .ok (.iconst 1, 1) := by decide +kernel
theorem dX6_allowed_20 : decode cX6_allowed 20 = .ok (.goto 4, 3) := by decide +kernel
theorem dX6_allowed_23 : decode cX6_allowed 23 = .ok (.iconst 0, 1) := by decide +kernel
theorem dX6_allowed_24 : decode cX6_allowed 24 = .ok (.ireturn, 1) := by decide +kernel
theorem dX6_alike_0 : decode cX6_alike 0 = .ok (.iload_n 0, 1) := by decide +kernel
theorem dX6_alike_1 : decode cX6_alike 1 = .ok (.ifCond .lt 22, 3) := by decide +kernel
theorem dX6_alike_4 : decode cX6_alike 4 = .ok (.iload_n 1, 1) := by decide +kernel
theorem dX6_alike_5 : decode cX6_alike 5 = .ok (.ifCond .lt 18, 3) := by decide +kernel
theorem dX6_alike_8 : decode cX6_alike 8 = .ok (.iload_n 0, 1) := by decide +kernel
theorem dX6_alike_9 : decode cX6_alike 9 = .ok (.bipush 50, 2) := by decide +kernel
theorem dX6_alike_11 : decode cX6_alike 11 = .ok (.irem, 1) := by decide +kernel
theorem dX6_alike_12 : decode cX6_alike 12 = .ok (.iload_n 1, 1) := by decide +kernel
theorem dX6_alike_13 : decode cX6_alike 13 = .ok (.bipush 50, 2) := by decide +kernel
theorem dX6_alike_15 : decode cX6_alike 15 = .ok (.irem, 1) := by decide +kernel
theorem dX6_alike_16 : decode cX6_alike 16 = .ok (.if_icmp .ne 7, 3) := by decide +kernel
theorem dX6_alike_19 : decode cX6_alike 19 = .ok (.iconst 1, 1) := by decide +kernel
theorem dX6_alike_20 : decode cX6_alike 20 = .ok (.goto 4, 3) := by decide +kernel
theorem dX6_alike_23 : decode cX6_alike 23 = .ok (.iconst 0, 1) := by decide +kernel
theorem dX6_alike_24 : decode cX6_alike 24 = .ok (.ireturn, 1) := by decide +kernel
set_option maxRecDepth 20000 in
theorem ggX6_finds_X6_alike : GoodIn wsX6_finds wsX6_alike := goodIn_r _ [7] (by decide +kernel) (by decide +kernel)
set_option maxRecDepth 20000 in
theorem gX6_finds_X6_alike : GoodIn wsX6_finds (va_wsS RX6 91 yX6_alike wsX6_alike) := goodIn_app (goodIn_of _ (by decide +kernel)) ggX6_finds_X6_alike
theorem dX6_finds_0 : decode cX6_finds 0 = .ok (.iconst (-1), 1) := by decide +kernel
theorem dX6_finds_1 : decode cX6_finds 1 = .ok (.istore 4, 2) := by decide +kernel
theorem dX6_finds_3 : decode cX6_finds 3 = .ok (.iconst 0, 1) := by decide +kernel
theorem dX6_finds_4 : decode cX6_finds 4 = .ok (.istore 5, 2) := by decide +kernel
theorem dX6_finds_6 : decode cX6_finds 6 = .ok (.iload 5, 2) := by decide +kernel
theorem dX6_finds_8 : decode cX6_finds 8 = .ok (.bipush 42, 2) := by decide +kernel
theorem dX6_finds_10 : decode cX6_finds 10 = .ok (.if_icmp .ge 59, 3) := by decide +kernel
theorem dX6_finds_13 : decode cX6_finds 13 = .ok (.aload_n 0, 1) := by decide +kernel
theorem dX6_finds_14 : decode cX6_finds 14 = .ok (.getfield 62, 3) := by decide +kernel
theorem dX6_finds_17 : decode cX6_finds 17 = .ok (.iload 5, 2) := by decide +kernel
theorem dX6_finds_19 : decode cX6_finds 19 = .ok (.baload, 1) := by decide +kernel
theorem dX6_finds_20 : decode cX6_finds 20 = .ok (.ifCond .eq 39, 3) := by decide +kernel
theorem dX6_finds_23 : decode cX6_finds 23 = .ok (.iload 5, 2) := by decide +kernel
theorem dX6_finds_25 : decode cX6_finds 25 = .ok (.iload_n 3, 1) := by decide +kernel
theorem dX6_finds_26 : decode cX6_finds 26 = .ok (.if_icmp .eq 33, 3) := by decide +kernel
theorem dX6_finds_29 : decode cX6_finds 29 = .ok (.aload_n 0, 1) := by decide +kernel
theorem dX6_finds_30 : decode cX6_finds 30 = .ok (.getfield 65, 3) := by decide +kernel
theorem dX6_finds_33 : decode cX6_finds 33 = .ok (.iload 5, 2) := by decide +kernel
theorem dX6_finds_35 : decode cX6_finds 35 = .ok (.iaload, 1) := by decide +kernel
theorem dX6_finds_36 : decode cX6_finds 36 = .ok (.iload_n 1, 1) := by decide +kernel
theorem dX6_finds_37 : decode cX6_finds 37 = .ok (.if_icmp .ne 22, 3) := by decide +kernel
theorem dX6_finds_40 : decode cX6_finds 40 = .ok (.aload_n 0, 1) := by decide +kernel
theorem dX6_finds_41 : decode cX6_finds 41 = .ok (.getfield 68, 3) := by decide +kernel
theorem dX6_finds_44 : decode cX6_finds 44 = .ok (.iload 5, 2) := by decide +kernel
theorem dX6_finds_46 : decode cX6_finds 46 = .ok (.iaload, 1) := by decide +kernel
theorem dX6_finds_47 : decode cX6_finds 47 = .ok (.iload_n 2, 1) := by decide +kernel
theorem dX6_finds_48 : decode cX6_finds 48 = .ok (.invokestatic 91, 3) := by decide +kernel
theorem dX6_finds_51 : decode cX6_finds 51 = .ok (.ifCond .eq 8, 3) := by decide +kernel
theorem dX6_finds_54 : decode cX6_finds 54 = .ok (.iload 5, 2) := by decide +kernel
theorem dX6_finds_56 : decode cX6_finds 56 = .ok (.goto 5, 3) := by decide +kernel
theorem dX6_finds_59 : decode cX6_finds 59 = .ok (.iload 4, 2) := by decide +kernel
theorem dX6_finds_61 : decode cX6_finds 61 = .ok (.istore 4, 2) := by decide +kernel
theorem dX6_finds_63 : decode cX6_finds 63 = .ok (.iinc 5 1, 3) := by decide +kernel
theorem dX6_finds_66 : decode cX6_finds 66 = .ok (.goto (-60), 3) := by decide +kernel
theorem dX6_finds_69 : decode cX6_finds 69 = .ok (.iload 4, 2) := by decide +kernel
theorem dX6_finds_71 : decode cX6_finds 71 = .ok (.ireturn, 1) := by decide +kernel
theorem dX6_isWithin_0 : decode cX6_isWithin 0 = .ok (.iload_n 1, 1) := by decide +kernel
theorem dX6_isWithin_1 : decode cX6_isWithin 1 = .ok (.istore_n 3, 1) := by decide +kernel
theorem dX6_isWithin_2 : decode cX6_isWithin 2 = .ok (.iload_n 3, 1) := by decide +kernel
theorem dX6_isWithin_3 : decode cX6_isWithin 3 = .ok (.ifCond .eq 18, 3) := by decide +kernel
theorem dX6_isWithin_6 : decode cX6_isWithin 6 = .ok (.iload_n 3, 1) := by decide +kernel
theorem dX6_isWithin_7 : decode cX6_isWithin 7 = .ok (.iload_n 2, 1) := by decide +kernel
theorem dX6_isWithin_8 : decode cX6_isWithin 8 = .ok (.if_icmp .eq 13, 3) := by decide +kernel
theorem dX6_isWithin_11 : decode cX6_isWithin 11 = .ok (.aload_n 0, 1) := by decide +kernel
theorem dX6_isWithin_12 : decode cX6_isWithin 12 = .ok (.getfield 65, 3) := by decide +kernel
theorem dX6_isWithin_15 : decode cX6_isWithin 15 = .ok (.iload_n 3, 1) := by decide +kernel
theorem dX6_isWithin_16 : decode cX6_isWithin 16 = .ok (.iaload, 1) := by decide +kernel
theorem dX6_isWithin_17 : decode cX6_isWithin 17 = .ok (.istore_n 3, 1) := by decide +kernel
theorem dX6_isWithin_18 : decode cX6_isWithin 18 = .ok (.goto (-16), 3) := by decide +kernel
theorem dX6_isWithin_21 : decode cX6_isWithin 21 = .ok (.iload_n 3, 1) := by decide +kernel
theorem dX6_isWithin_22 : decode cX6_isWithin 22 = .ok (.iload_n 2, 1) := by decide +kernel
theorem dX6_isWithin_23 : decode cX6_isWithin 23 = .ok (.if_icmp .ne 7, 3) := by decide +kernel
theorem dX6_isWithin_26 : decode cX6_isWithin 26 = .ok (.iconst 1, 1) := by decide +kernel
theorem dX6_isWithin_27 : decode cX6_isWithin 27 = .ok (.goto 4, 3) := by decide +kernel
theorem dX6_isWithin_30 : decode cX6_isWithin 30 = .ok (.iconst 0, 1) := by decide +kernel
theorem dX6_isWithin_31 : decode cX6_isWithin 31 = .ok (.ireturn, 1) := by decide +kernel
set_option maxRecDepth 20000 in
theorem ggX6_hangs_X6_finds : GoodIn wsX6_hangs wsX6_finds := goodIn_r _ [8, 2, 1, 3, 9, 10, 7, 11, 12, 13, 14, 15, 16, 17, 18, 19, 20, 21, 22, 23, 24, 25, 26, 27, 28, 29, 30, 31, 32, 33, 34, 35, 36, 37] (by decide +kernel) (by decide +kernel)
set_option maxRecDepth 20000 in
theorem gX6_hangs_X6_finds : GoodIn wsX6_hangs (wsV RX6 95 RX6 yX6_finds wsX6_finds) := goodIn_app (goodIn_of _ (by decide +kernel)) ggX6_hangs_X6_finds
theorem dX6_hangs_0 : decode cX6_hangs 0 = .ok (.aload_n 0, 1) := by decide +kernel
theorem dX6_hangs_1 : decode cX6_hangs 1 = .ok (.getfield 65, 3) := by decide +kernel
theorem dX6_hangs_4 : decode cX6_hangs 4 = .ok (.iload_n 1, 1) := by decide +kernel
theorem dX6_hangs_5 : decode cX6_hangs 5 = .ok (.aload_n 0, 1) := by decide +kernel
theorem dX6_hangs_6 : decode cX6_hangs 6 = .ok (.getfield 62, 3) := by decide +kernel
theorem dX6_hangs_9 : decode cX6_hangs 9 = .ok (.iload_n 2, 1) := by decide +kernel
theorem dX6_hangs_10 : decode cX6_hangs 10 = .ok (.baload, 1) := by decide +kernel
theorem dX6_hangs_11 : decode cX6_hangs 11 = .ok (.ifCond .eq 7, 3) := by decide +kernel
theorem dX6_hangs_14 : decode cX6_hangs 14 = .ok (.iload_n 2, 1) := by decide +kernel
theorem dX6_hangs_15 : decode cX6_hangs 15 = .ok (.goto 4, 3) := by decide +kernel
theorem dX6_hangs_18 : decode cX6_hangs 18 = .ok (.iconst 1, 1) := by decide +kernel
theorem dX6_hangs_19 : decode cX6_hangs 19 = .ok (.iastore, 1) := by decide +kernel
theorem dX6_hangs_20 : decode cX6_hangs 20 = .ok (.aload_n 0, 1) := by decide +kernel
theorem dX6_hangs_21 : decode cX6_hangs 21 = .ok (.getfield 68, 3) := by decide +kernel
theorem dX6_hangs_24 : decode cX6_hangs 24 = .ok (.iload_n 1, 1) := by decide +kernel
theorem dX6_hangs_25 : decode cX6_hangs 25 = .ok (.aload_n 0, 1) := by decide +kernel
theorem dX6_hangs_26 : decode cX6_hangs 26 = .ok (.aload_n 0, 1) := by decide +kernel
theorem dX6_hangs_27 : decode cX6_hangs 27 = .ok (.getfield 65, 3) := by decide +kernel
theorem dX6_hangs_30 : decode cX6_hangs 30 = .ok (.iload_n 1, 1) := by decide +kernel
theorem dX6_hangs_31 : decode cX6_hangs 31 = .ok (.iaload, 1) := by decide +kernel
theorem dX6_hangs_32 : decode cX6_hangs 32 = .ok (.aload_n 0, 1) := by decide +kernel
theorem dX6_hangs_33 : decode cX6_hangs 33 = .ok (.getfield 68, 3) := by decide +kernel
theorem dX6_hangs_36 : decode cX6_hangs 36 = .ok (.iload_n 1, 1) := by decide +kernel
theorem dX6_hangs_37 : decode cX6_hangs 37 = .ok (.iaload, 1) := by decide +kernel
theorem dX6_hangs_38 : decode cX6_hangs 38 = .ok (.iload_n 1, 1) := by decide +kernel
theorem dX6_hangs_39 : decode cX6_hangs 39 = .ok (.invokevirtual 95, 3) := by decide +kernel
theorem dX6_hangs_42 : decode cX6_hangs 42 = .ok (.ifCond .ge 12, 3) := by decide +kernel
theorem dX6_hangs_45 : decode cX6_hangs 45 = .ok (.aload_n 0, 1) := by decide +kernel
theorem dX6_hangs_46 : decode cX6_hangs 46 = .ok (.getfield 68, 3) := by decide +kernel
theorem dX6_hangs_49 : decode cX6_hangs 49 = .ok (.iload_n 1, 1) := by decide +kernel
theorem dX6_hangs_50 : decode cX6_hangs 50 = .ok (.iaload, 1) := by decide +kernel
theorem dX6_hangs_51 : decode cX6_hangs 51 = .ok (.goto 4, 3) := by decide +kernel
theorem dX6_hangs_54 : decode cX6_hangs 54 = .ok (.iconst (-1), 1) := by decide +kernel
theorem dX6_hangs_55 : decode cX6_hangs 55 = .ok (.iastore, 1) := by decide +kernel
theorem dX6_hangs_56 : decode cX6_hangs 56 = .ok (.return_, 1) := by decide +kernel
set_option maxRecDepth 20000 in
theorem ggX6_does_X6_hangs : GoodIn wsX6_does wsX6_hangs := goodIn_r _ [16, 11, 3, 6, 17, 18, 19, 15, 20, 21, 22, 23, 33, 34, 35, 36, 37, 38, 39, 40, 41, 42, 43, 44, 45, 46, 47, 48, 49, 50, 51, 52, 53, 54, 55, 56, 57, 58] (by decide +kernel) (by decide +kernel)
set_option maxRecDepth 20000 in
theorem gX6_does_X6_hangs : GoodIn wsX6_does (wsV RX6 99 RX6 yX6_hangs wsX6_hangs) := goodIn_app (goodIn_of _ (by decide +kernel)) ggX6_does_X6_hangs
set_option maxRecDepth 20000 in
theorem ggX6_does_X6_allowed : GoodIn wsX6_does wsX6_allowed := goodIn_r _ [27, 28, 4, 33, 34, 35, 36, 37, 38, 39, 40, 41, 42, 43, 44, 45, 46, 47, 48, 49, 50, 51, 52, 53, 54, 55, 56, 57, 58] (by decide +kernel) (by decide +kernel)
set_option maxRecDepth 20000 in
theorem gX6_does_X6_allowed : GoodIn wsX6_does (wsV RX6 103 RX6 yX6_allowed wsX6_allowed) := goodIn_app (goodIn_of _ (by decide +kernel)) ggX6_does_X6_allowed
set_option maxRecDepth 20000 in
theorem ggX6_does_X6_isWithin : GoodIn wsX6_does wsX6_isWithin := goodIn_r _ [32, 11, 33, 34, 35, 36, 37, 38, 39, 40, 41, 42, 43, 44, 45, 46, 47, 48, 49, 50, 51, 52, 53, 54, 55, 56, 57, 58] (by decide +kernel) (by decide +kernel)
set_option maxRecDepth 20000 in
theorem gX6_does_X6_isWithin : GoodIn wsX6_does (wsV RX6 106 RX6 yX6_isWithin wsX6_isWithin) := goodIn_app (goodIn_of _ (by decide +kernel)) ggX6_does_X6_isWithin
theorem dX6_does_0 : decode cX6_does 0 = .ok (.aload_n 0, 1) := by decide +kernel
theorem dX6_does_1 : decode cX6_does 1 = .ok (.getfield 19, 3) := by decide +kernel
theorem dX6_does_4 : decode cX6_does 4 = .ok (.iload_n 1, 1) := by decide +kernel
theorem dX6_does_5 : decode cX6_does 5 = .ok (.iaload, 1) := by decide +kernel
theorem dX6_does_6 : decode cX6_does 6 = .ok (.istore_n 2, 1) := by decide +kernel
theorem dX6_does_7 : decode cX6_does 7 = .ok (.aload_n 0, 1) := by decide +kernel
theorem dX6_does_8 : decode cX6_does 8 = .ok (.getfield 16, 3) := by decide +kernel
theorem dX6_does_11 : decode cX6_does 11 = .ok (.iload_n 1, 1) := by decide +kernel
theorem dX6_does_12 : decode cX6_does 12 = .ok (.iaload, 1) := by decide +kernel
theorem dX6_does_13 : decode cX6_does 13 = .ok (.ifCond .ne 45, 3) := by decide +kernel
theorem dX6_does_16 : decode cX6_does 16 = .ok (.aload_n 0, 1) := by decide +kernel
theorem dX6_does_17 : decode cX6_does 17 = .ok (.getfield 62, 3) := by decide +kernel
theorem dX6_does_20 : decode cX6_does 20 = .ok (.iload_n 2, 1) := by decide +kernel
theorem dX6_does_21 : decode cX6_does 21 = .ok (.iconst 1, 1) := by decide +kernel
theorem dX6_does_22 : decode cX6_does 22 = .ok (.bastore, 1) := by decide +kernel
theorem dX6_does_23 : decode cX6_does 23 = .ok (.aload_n 0, 1) := by decide +kernel
theorem dX6_does_24 : decode cX6_does 24 = .ok (.getfield 71, 3) := by decide +kernel
theorem dX6_does_27 : decode cX6_does 27 = .ok (.iload_n 2, 1) := by decide +kernel
theorem dX6_does_28 : decode cX6_does 28 = .ok (.aload_n 0, 1) := by decide +kernel
theorem dX6_does_29 : decode cX6_does 29 = .ok (.getfield 28, 3) := by decide +kernel
theorem dX6_does_32 : decode cX6_does 32 = .ok (.iload_n 1, 1) := by decide +kernel
theorem dX6_does_33 : decode cX6_does 33 = .ok (.iaload, 1) := by decide +kernel
theorem dX6_does_34 : decode cX6_does 34 = .ok (.iastore, 1) := by decide +kernel
theorem dX6_does_35 : decode cX6_does 35 = .ok (.aload_n 0, 1) := by decide +kernel
theorem dX6_does_36 : decode cX6_does 36 = .ok (.getfield 68, 3) := by decide +kernel
theorem dX6_does_39 : decode cX6_does 39 = .ok (.iload_n 2, 1) := by decide +kernel
theorem dX6_does_40 : decode cX6_does 40 = .ok (.aload_n 0, 1) := by decide +kernel
theorem dX6_does_41 : decode cX6_does 41 = .ok (.getfield 25, 3) := by decide +kernel
theorem dX6_does_44 : decode cX6_does 44 = .ok (.iload_n 1, 1) := by decide +kernel
theorem dX6_does_45 : decode cX6_does 45 = .ok (.iaload, 1) := by decide +kernel
theorem dX6_does_46 : decode cX6_does 46 = .ok (.iastore, 1) := by decide +kernel
theorem dX6_does_47 : decode cX6_does 47 = .ok (.aload_n 0, 1) := by decide +kernel
theorem dX6_does_48 : decode cX6_does 48 = .ok (.iload_n 2, 1) := by decide +kernel
theorem dX6_does_49 : decode cX6_does 49 = .ok (.aload_n 0, 1) := by decide +kernel
theorem dX6_does_50 : decode cX6_does 50 = .ok (.getfield 22, 3) := by decide +kernel
theorem dX6_does_53 : decode cX6_does 53 = .ok (.iload_n 1, 1) := by decide +kernel
theorem dX6_does_54 : decode cX6_does 54 = .ok (.iaload, 1) := by decide +kernel
theorem dX6_does_55 : decode cX6_does 55 = .ok (.invokevirtual 99, 3) := by decide +kernel
theorem dX6_does_58 : decode cX6_does 58 = .ok (.aload_n 0, 1) := by decide +kernel
theorem dX6_does_59 : decode cX6_does 59 = .ok (.getfield 16, 3) := by decide +kernel
theorem dX6_does_62 : decode cX6_does 62 = .ok (.iload_n 1, 1) := by decide +kernel
theorem dX6_does_63 : decode cX6_does 63 = .ok (.iaload, 1) := by decide +kernel
theorem dX6_does_64 : decode cX6_does 64 = .ok (.iconst 1, 1) := by decide +kernel
theorem dX6_does_65 : decode cX6_does 65 = .ok (.if_icmp .ne 47, 3) := by decide +kernel
theorem dX6_does_68 : decode cX6_does 68 = .ok (.aload_n 0, 1) := by decide +kernel
theorem dX6_does_69 : decode cX6_does 69 = .ok (.getfield 62, 3) := by decide +kernel
theorem dX6_does_72 : decode cX6_does 72 = .ok (.iload_n 2, 1) := by decide +kernel
theorem dX6_does_73 : decode cX6_does 73 = .ok (.baload, 1) := by decide +kernel
theorem dX6_does_74 : decode cX6_does 74 = .ok (.ifCond .eq 38, 3) := by decide +kernel
theorem dX6_does_77 : decode cX6_does 77 = .ok (.aload_n 0, 1) := by decide +kernel
theorem dX6_does_78 : decode cX6_does 78 = .ok (.iload_n 2, 1) := by decide +kernel
theorem dX6_does_79 : decode cX6_does 79 = .ok (.aload_n 0, 1) := by decide +kernel
theorem dX6_does_80 : decode cX6_does 80 = .ok (.getfield 28, 3) := by decide +kernel
theorem dX6_does_83 : decode cX6_does 83 = .ok (.iload_n 1, 1) := by decide +kernel
theorem dX6_does_84 : decode cX6_does 84 = .ok (.iaload, 1) := by decide +kernel
theorem dX6_does_85 : decode cX6_does 85 = .ok (.invokevirtual 103, 3) := by decide +kernel
theorem dX6_does_88 : decode cX6_does 88 = .ok (.ifCond .eq 24, 3) := by decide +kernel
theorem dX6_does_91 : decode cX6_does 91 = .ok (.aload_n 0, 1) := by decide +kernel
theorem dX6_does_92 : decode cX6_does 92 = .ok (.getfield 74, 3) := by decide +kernel
theorem dX6_does_95 : decode cX6_does 95 = .ok (.iconst 4, 1) := by decide +kernel
theorem dX6_does_96 : decode cX6_does 96 = .ok (.iload_n 2, 1) := by decide +kernel
theorem dX6_does_97 : decode cX6_does 97 = .ok (.imul, 1) := by decide +kernel
theorem dX6_does_98 : decode cX6_does 98 = .ok (.aload_n 0, 1) := by decide +kernel
theorem dX6_does_99 : decode cX6_does 99 = .ok (.getfield 28, 3) := by decide +kernel
theorem dX6_does_102 : decode cX6_does 102 = .ok (.iload_n 1, 1) := by decide +kernel
theorem dX6_does_103 : decode cX6_does 103 = .ok (.iaload, 1) := by decide +kernel
theorem dX6_does_104 : decode cX6_does 104 = .ok (.iadd, 1) := by decide +kernel
theorem dX6_does_105 : decode cX6_does 105 = .ok (.aload_n 0, 1) := by decide +kernel
theorem dX6_does_106 : decode cX6_does 106 = .ok (.getfield 31, 3) := by decide +kernel
theorem dX6_does_109 : decode cX6_does 109 = .ok (.iload_n 1, 1) := by decide +kernel
theorem dX6_does_110 : decode cX6_does 110 = .ok (.iaload, 1) := by decide +kernel
theorem dX6_does_111 : decode cX6_does 111 = .ok (.iastore, 1) := by decide +kernel
theorem dX6_does_112 : decode cX6_does 112 = .ok (.aload_n 0, 1) := by decide +kernel
theorem dX6_does_113 : decode cX6_does 113 = .ok (.getfield 16, 3) := by decide +kernel
theorem dX6_does_116 : decode cX6_does 116 = .ok (.iload_n 1, 1) := by decide +kernel
theorem dX6_does_117 : decode cX6_does 117 = .ok (.iaload, 1) := by decide +kernel
theorem dX6_does_118 : decode cX6_does 118 = .ok (.iconst 2, 1) := by decide +kernel
theorem dX6_does_119 : decode cX6_does 119 = .ok (.if_icmp .ne 63, 3) := by decide +kernel
theorem dX6_does_122 : decode cX6_does 122 = .ok (.aload_n 0, 1) := by decide +kernel
theorem dX6_does_123 : decode cX6_does 123 = .ok (.getfield 62, 3) := by decide +kernel
theorem dX6_does_126 : decode cX6_does 126 = .ok (.iload_n 2, 1) := by decide +kernel
theorem dX6_does_127 : decode cX6_does 127 = .ok (.baload, 1) := by decide +kernel
theorem dX6_does_128 : decode cX6_does 128 = .ok (.ifCond .eq 54, 3) := by decide +kernel
theorem dX6_does_131 : decode cX6_does 131 = .ok (.aload_n 0, 1) := by decide +kernel
theorem dX6_does_132 : decode cX6_does 132 = .ok (.getfield 62, 3) := by decide +kernel
theorem dX6_does_135 : decode cX6_does 135 = .ok (.aload_n 0, 1) := by decide +kernel
theorem dX6_does_136 : decode cX6_does 136 = .ok (.getfield 22, 3) := by decide +kernel
theorem dX6_does_139 : decode cX6_does 139 = .ok (.iload_n 1, 1) := by decide +kernel
theorem dX6_does_140 : decode cX6_does 140 = .ok (.iaload, 1) := by decide +kernel
theorem dX6_does_141 : decode cX6_does 141 = .ok (.baload, 1) := by decide +kernel
theorem dX6_does_142 : decode cX6_does 142 = .ok (.ifCond .eq 17, 3) := by decide +kernel
theorem dX6_does_145 : decode cX6_does 145 = .ok (.aload_n 0, 1) := by decide +kernel
theorem dX6_does_146 : decode cX6_does 146 = .ok (.aload_n 0, 1) := by decide +kernel
theorem dX6_does_147 : decode cX6_does 147 = .ok (.getfield 22, 3) := by decide +kernel
theorem dX6_does_150 : decode cX6_does 150 = .ok (.iload_n 1, 1) := by decide +kernel
theorem dX6_does_151 : decode cX6_does 151 = .ok (.iaload, 1) := by decide +kernel
theorem dX6_does_152 : decode cX6_does 152 = .ok (.iload_n 2, 1) := by decide +kernel
theorem dX6_does_153 : decode cX6_does 153 = .ok (.invokevirtual 106, 3) := by decide +kernel
theorem dX6_does_156 : decode cX6_does 156 = .ok (.ifCond .ne 26, 3) := by decide +kernel
theorem dX6_does_159 : decode cX6_does 159 = .ok (.aload_n 0, 1) := by decide +kernel
theorem dX6_does_160 : decode cX6_does 160 = .ok (.getfield 68, 3) := by decide +kernel
theorem dX6_does_163 : decode cX6_does 163 = .ok (.iload_n 2, 1) := by decide +kernel
theorem dX6_does_164 : decode cX6_does 164 = .ok (.aload_n 0, 1) := by decide +kernel
theorem dX6_does_165 : decode cX6_does 165 = .ok (.getfield 25, 3) := by decide +kernel
theorem dX6_does_168 : decode cX6_does 168 = .ok (.iload_n 1, 1) := by decide +kernel
theorem dX6_does_169 : decode cX6_does 169 = .ok (.iaload, 1) := by decide +kernel
theorem dX6_does_170 : decode cX6_does 170 = .ok (.iastore, 1) := by decide +kernel
theorem dX6_does_171 : decode cX6_does 171 = .ok (.aload_n 0, 1) := by decide +kernel
theorem dX6_does_172 : decode cX6_does 172 = .ok (.iload_n 2, 1) := by decide +kernel
theorem dX6_does_173 : decode cX6_does 173 = .ok (.aload_n 0, 1) := by decide +kernel
theorem dX6_does_174 : decode cX6_does 174 = .ok (.getfield 22, 3) := by decide +kernel
theorem dX6_does_177 : decode cX6_does 177 = .ok (.iload_n 1, 1) := by decide +kernel
theorem dX6_does_178 : decode cX6_does 178 = .ok (.iaload, 1) := by decide +kernel
theorem dX6_does_179 : decode cX6_does 179 = .ok (.invokevirtual 99, 3) := by decide +kernel
theorem dX6_does_182 : decode cX6_does 182 = .ok (.aload_n 0, 1) := by decide +kernel
theorem dX6_does_183 : decode cX6_does 183 = .ok (.getfield 16, 3) := by decide +kernel
theorem dX6_does_186 : decode cX6_does 186 = .ok (.iload_n 1, 1) := by decide +kernel
theorem dX6_does_187 : decode cX6_does 187 = .ok (.iaload, 1) := by decide +kernel
theorem dX6_does_188 : decode cX6_does 188 = .ok (.iconst 3, 1) := by decide +kernel
theorem dX6_does_189 : decode cX6_does 189 = .ok (.if_icmp .ne 58, 3) := by decide +kernel
theorem dX6_does_192 : decode cX6_does 192 = .ok (.aload_n 0, 1) := by decide +kernel
theorem dX6_does_193 : decode cX6_does 193 = .ok (.getfield 62, 3) := by decide +kernel
theorem dX6_does_196 : decode cX6_does 196 = .ok (.iload_n 2, 1) := by decide +kernel
theorem dX6_does_197 : decode cX6_does 197 = .ok (.baload, 1) := by decide +kernel
theorem dX6_does_198 : decode cX6_does 198 = .ok (.ifCond .eq 49, 3) := by decide +kernel
theorem dX6_does_201 : decode cX6_does 201 = .ok (.aload_n 0, 1) := by decide +kernel
theorem dX6_does_202 : decode cX6_does 202 = .ok (.getfield 62, 3) := by decide +kernel
theorem dX6_does_205 : decode cX6_does 205 = .ok (.iload_n 2, 1) := by decide +kernel
theorem dX6_does_206 : decode cX6_does 206 = .ok (.iconst 0, 1) := by decide +kernel
theorem dX6_does_207 : decode cX6_does 207 = .ok (.bastore, 1) := by decide +kernel
theorem dX6_does_208 : decode cX6_does 208 = .ok (.iconst 0, 1) := by decide +kernel
theorem dX6_does_209 : decode cX6_does 209 = .ok (.istore_n 3, 1) := by decide +kernel
theorem dX6_does_210 : decode cX6_does 210 = .ok (.iload_n 3, 1) := by decide +kernel
theorem dX6_does_211 : decode cX6_does 211 = .ok (.bipush 42, 2) := by decide +kernel
theorem dX6_does_213 : decode cX6_does 213 = .ok (.if_icmp .ge 34, 3) := by decide +kernel
theorem dX6_does_216 : decode cX6_does 216 = .ok (.aload_n 0, 1) := by decide +kernel
theorem dX6_does_217 : decode cX6_does 217 = .ok (.getfield 62, 3) := by decide +kernel
theorem dX6_does_220 : decode cX6_does 220 = .ok (.iload_n 3, 1) := by decide +kernel
theorem dX6_does_221 : decode cX6_does 221 = .ok (.baload, 1) := by decide +kernel
theorem dX6_does_222 : decode cX6_does 222 = .ok (.ifCond .eq 19, 3) := by decide +kernel
theorem dX6_does_225 : decode cX6_does 225 = .ok (.aload_n 0, 1) := by decide +kernel
theorem dX6_does_226 : decode cX6_does 226 = .ok (.getfield 65, 3) := by decide +kernel
theorem dX6_does_229 : decode cX6_does 229 = .ok (.iload_n 3, 1) := by decide +kernel
theorem dX6_does_230 : decode cX6_does 230 = .ok (.iaload, 1) := by decide +kernel
theorem dX6_does_231 : decode cX6_does 231 = .ok (.iload_n 2, 1) := by decide +kernel
theorem dX6_does_232 : decode cX6_does 232 = .ok (.if_icmp .ne 9, 3) := by decide +kernel
theorem dX6_does_235 : decode cX6_does 235 = .ok (.aload_n 0, 1) := by decide +kernel
theorem dX6_does_236 : decode cX6_does 236 = .ok (.iload_n 3, 1) := by decide +kernel
theorem dX6_does_237 : decode cX6_does 237 = .ok (.iconst 1, 1) := by decide +kernel
theorem dX6_does_238 : decode cX6_does 238 = .ok (.invokevirtual 99, 3) := by decide +kernel
theorem dX6_does_241 : decode cX6_does 241 = .ok (.iinc 3 1, 3) := by decide +kernel
theorem dX6_does_244 : decode cX6_does 244 = .ok (.goto (-34), 3) := by decide +kernel
theorem dX6_does_247 : decode cX6_does 247 = .ok (.return_, 1) := by decide +kernel
theorem dX6_knows_0 : decode cX6_knows 0 = .ok (.aload_n 0, 1) := by decide +kernel
theorem dX6_knows_1 : decode cX6_knows 1 = .ok (.getfield 40, 3) := by decide +kernel
theorem dX6_knows_4 : decode cX6_knows 4 = .ok (.iload_n 1, 1) := by decide +kernel
theorem dX6_knows_5 : decode cX6_knows 5 = .ok (.iaload, 1) := by decide +kernel
theorem dX6_knows_6 : decode cX6_knows 6 = .ok (.iload_n 2, 1) := by decide +kernel
theorem dX6_knows_7 : decode cX6_knows 7 = .ok (.ishr, 1) := by decide +kernel
theorem dX6_knows_8 : decode cX6_knows 8 = .ok (.iconst 1, 1) := by decide +kernel
theorem dX6_knows_9 : decode cX6_knows 9 = .ok (.iand, 1) := by decide +kernel
theorem dX6_knows_10 : decode cX6_knows 10 = .ok (.iconst 1, 1) := by decide +kernel
theorem dX6_knows_11 : decode cX6_knows 11 = .ok (.if_icmp .ne 7, 3) := by decide +kernel
theorem dX6_knows_14 : decode cX6_knows 14 = .ok (.iconst 1, 1) := by decide +kernel
theorem dX6_knows_15 : decode cX6_knows 15 = .ok (.goto 4, 3) := by decide +kernel
theorem dX6_knows_18 : decode cX6_knows 18 = .ok (.iconst 0, 1) := by decide +kernel
theorem dX6_knows_19 : decode cX6_knows 19 = .ok (.ireturn, 1) := by decide +kernel
set_option maxRecDepth 20000 in
theorem ggX6_next_X6_knows : GoodIn wsX6_next wsX6_knows := goodIn_r _ [8, 9, 10, 11, 12, 13, 14, 15, 16, 17, 18, 19, 20, 21, 22, 23, 24, 25, 26, 27, 28, 29, 30, 31, 32, 33, 34, 35] (by decide +kernel) (by decide +kernel)
set_option maxRecDepth 20000 in
theorem gX6_next_X6_knows : GoodIn wsX6_next (wsV RX6 109 RX6 yX6_knows wsX6_knows) := goodIn_app (goodIn_of _ (by decide +kernel)) ggX6_next_X6_knows
theorem dX6_next_0 : decode cX6_next 0 = .ok (.iconst (-1), 1) := by decide +kernel
theorem dX6_next_1 : decode cX6_next 1 = .ok (.istore_n 3, 1) := by decide +kernel
theorem dX6_next_2 : decode cX6_next 2 = .ok (.iconst 0, 1) := by decide +kernel
theorem dX6_next_3 : decode cX6_next 3 = .ok (.istore 4, 2) := by decide +kernel
theorem dX6_next_5 : decode cX6_next 5 = .ok (.iload 4, 2) := by decide +kernel
theorem dX6_next_7 : decode cX6_next 7 = .ok (.aload_n 0, 1) := by decide +kernel
theorem dX6_next_8 : decode cX6_next 8 = .ok (.getfield 88, 3) := by decide +kernel
theorem dX6_next_11 : decode cX6_next 11 = .ok (.if_icmp .ge 98, 3) := by decide +kernel
theorem dX6_next_14 : decode cX6_next 14 = .ok (.aload_n 0, 1) := by decide +kernel
theorem dX6_next_15 : decode cX6_next 15 = .ok (.iload 4, 2) := by decide +kernel
theorem dX6_next_17 : decode cX6_next 17 = .ok (.iload_n 1, 1) := by decide +kernel
theorem dX6_next_18 : decode cX6_next 18 = .ok (.invokevirtual 109, 3) := by decide +kernel
theorem dX6_next_21 : decode cX6_next 21 = .ok (.ifCond .eq 28, 3) := by decide +kernel
theorem dX6_next_24 : decode cX6_next 24 = .ok (.iconst 2, 1) := by decide +kernel
theorem dX6_next_25 : decode cX6_next 25 = .ok (.aload_n 0, 1) := by decide +kernel
theorem dX6_next_26 : decode cX6_next 26 = .ok (.getfield 34, 3) := by decide +kernel
theorem dX6_next_29 : decode cX6_next 29 = .ok (.iload 4, 2) := by decide +kernel
theorem dX6_next_31 : decode cX6_next 31 = .ok (.iaload, 1) := by decide +kernel
theorem dX6_next_32 : decode cX6_next 32 = .ok (.imul, 1) := by decide +kernel
theorem dX6_next_33 : decode cX6_next 33 = .ok (.aload_n 0, 1) := by decide +kernel
theorem dX6_next_34 : decode cX6_next 34 = .ok (.getfield 37, 3) := by decide +kernel
theorem dX6_next_37 : decode cX6_next 37 = .ok (.iload 4, 2) := by decide +kernel
theorem dX6_next_39 : decode cX6_next 39 = .ok (.iaload, 1) := by decide +kernel
theorem dX6_next_40 : decode cX6_next 40 = .ok (.iadd, 1) := by decide +kernel
theorem dX6_next_41 : decode cX6_next 41 = .ok (.iload_n 2, 1) := by decide +kernel
theorem dX6_next_42 : decode cX6_next 42 = .ok (.if_icmp .le 7, 3) := by decide +kernel
theorem dX6_next_45 : decode cX6_next 45 = .ok (.iconst 1, 1) := by decide +kernel
theorem dX6_next_46 : decode cX6_next 46 = .ok (.goto 4, 3) := by decide +kernel
theorem dX6_next_49 : decode cX6_next 49 = .ok (.iconst 0, 1) := by decide +kernel
theorem dX6_next_50 : decode cX6_next 50 = .ok (.istore 5, 2) := by decide +kernel
theorem dX6_next_52 : decode cX6_next 52 = .ok (.iload 5, 2) := by decide +kernel
theorem dX6_next_54 : decode cX6_next 54 = .ok (.ifCond .eq 47, 3) := by decide +kernel
theorem dX6_next_57 : decode cX6_next 57 = .ok (.iload_n 3, 1) := by decide +kernel
theorem dX6_next_58 : decode cX6_next 58 = .ok (.ifCond .lt 38, 3) := by decide +kernel
theorem dX6_next_61 : decode cX6_next 61 = .ok (.iconst 2, 1) := by decide +kernel
theorem dX6_next_62 : decode cX6_next 62 = .ok (.aload_n 0, 1) := by decide +kernel
theorem dX6_next_63 : decode cX6_next 63 = .ok (.getfield 34, 3) := by decide +kernel
theorem dX6_next_66 : decode cX6_next 66 = .ok (.iload 4, 2) := by decide +kernel
theorem dX6_next_68 : decode cX6_next 68 = .ok (.iaload, 1) := by decide +kernel
theorem dX6_next_69 : decode cX6_next 69 = .ok (.imul, 1) := by decide +kernel
theorem dX6_next_70 : decode cX6_next 70 = .ok (.aload_n 0, 1) := by decide +kernel
theorem dX6_next_71 : decode cX6_next 71 = .ok (.getfield 37, 3) := by decide +kernel
theorem dX6_next_74 : decode cX6_next 74 = .ok (.iload 4, 2) := by decide +kernel
theorem dX6_next_76 : decode cX6_next 76 = .ok (.iaload, 1) := by decide +kernel
theorem dX6_next_77 : decode cX6_next 77 = .ok (.iadd, 1) := by decide +kernel
theorem dX6_next_78 : decode cX6_next 78 = .ok (.iconst 2, 1) := by decide +kernel
theorem dX6_next_79 : decode cX6_next 79 = .ok (.aload_n 0, 1) := by decide +kernel
theorem dX6_next_80 : decode cX6_next 80 = .ok (.getfield 34, 3) := by decide +kernel
theorem dX6_next_83 : decode cX6_next 83 = .ok (.iload_n 3, 1) := by decide +kernel
theorem dX6_next_84 : decode cX6_next 84 = .ok (.iaload, 1) := by decide +kernel
theorem dX6_next_85 : decode cX6_next 85 = .ok (.imul, 1) := by decide +kernel
theorem dX6_next_86 : decode cX6_next 86 = .ok (.aload_n 0, 1) := by decide +kernel
theorem dX6_next_87 : decode cX6_next 87 = .ok (.getfield 37, 3) := by decide +kernel
theorem dX6_next_90 : decode cX6_next 90 = .ok (.iload_n 3, 1) := by decide +kernel
theorem dX6_next_91 : decode cX6_next 91 = .ok (.iaload, 1) := by decide +kernel
theorem dX6_next_92 : decode cX6_next 92 = .ok (.iadd, 1) := by decide +kernel
theorem dX6_next_93 : decode cX6_next 93 = .ok (.if_icmp .ge 8, 3) := by decide +kernel
theorem dX6_next_96 : decode cX6_next 96 = .ok (.iload 4, 2) := by decide +kernel
theorem dX6_next_98 : decode cX6_next 98 = .ok (.goto 4, 3) := by decide +kernel
theorem dX6_next_101 : decode cX6_next 101 = .ok (.iload_n 3, 1) := by decide +kernel
theorem dX6_next_102 : decode cX6_next 102 = .ok (.istore_n 3, 1) := by decide +kernel
theorem dX6_next_103 : decode cX6_next 103 = .ok (.iinc 4 1, 3) := by decide +kernel
theorem dX6_next_106 : decode cX6_next 106 = .ok (.goto (-101), 3) := by decide +kernel
theorem dX6_next_109 : decode cX6_next 109 = .ok (.iload_n 3, 1) := by decide +kernel
theorem dX6_next_110 : decode cX6_next 110 = .ok (.ireturn, 1) := by decide +kernel
set_option maxRecDepth 20000 in
theorem ggX6_grows_X6_next : GoodIn wsX6_grows wsX6_next := goodIn_r _ [12, 13, 6, 7, 14, 15, 16, 11, 17, 18, 49, 50, 51, 52, 53, 54, 55, 56, 57, 58, 59, 60, 61, 62, 63, 64, 65, 66, 67, 68, 69, 70, 71, 72, 73, 74] (by decide +kernel) (by decide +kernel)
set_option maxRecDepth 20000 in
theorem gX6_grows_X6_next : GoodIn wsX6_grows (wsV RX6 112 RX6 yX6_next wsX6_next) := goodIn_app (goodIn_of _ (by decide +kernel)) ggX6_grows_X6_next
set_option maxRecDepth 20000 in
theorem ggX6_grows_X6_does : GoodIn wsX6_grows wsX6_does := goodIn_r _ [22, 23, 24, 1, 4, 25, 3, 26, 27, 5, 28, 2, 29, 30, 31, 11, 32, 33, 34, 35, 36, 37, 38, 39, 40, 41, 42, 43, 44, 45, 46, 47, 48, 49, 50, 51, 52, 53, 54, 55, 56, 57, 58, 59, 60, 61, 62, 63, 64, 65, 66, 67, 68, 69, 70, 71, 72, 73, 74] (by decide +kernel) (by decide +kernel)
set_option maxRecDepth 20000 in
theorem gX6_grows_X6_does : GoodIn wsX6_grows (wsV RX6 116 RX6 yX6_does wsX6_does) := goodIn_app (goodIn_of _ (by decide +kernel)) ggX6_grows_X6_does
theorem dX6_grows_0 : decode cX6_grows 0 = .ok (.iconst 0, 1) := by decide +kernel
theorem dX6_grows_1 : decode cX6_grows 1 = .ok (.istore_n 2, 1) := by decide +kernel
theorem dX6_grows_2 : decode cX6_grows 2 = .ok (.iload_n 2, 1) := by decide +kernel
theorem dX6_grows_3 : decode cX6_grows 3 = .ok (.bipush 42, 2) := by decide +kernel
theorem dX6_grows_5 : decode cX6_grows 5 = .ok (.if_icmp .ge 65, 3) := by decide +kernel
theorem dX6_grows_8 : decode cX6_grows 8 = .ok (.aload_n 0, 1) := by decide +kernel
theorem dX6_grows_9 : decode cX6_grows 9 = .ok (.getfield 62, 3) := by decide +kernel
theorem dX6_grows_12 : decode cX6_grows 12 = .ok (.iload_n 2, 1) := by decide +kernel
theorem dX6_grows_13 : decode cX6_grows 13 = .ok (.iload_n 2, 1) := by decide +kernel
theorem dX6_grows_14 : decode cX6_grows 14 = .ok (.iconst 2, 1) := by decide +kernel
theorem dX6_grows_15 : decode cX6_grows 15 = .ok (.if_icmp .ge 7, 3) := by decide +kernel
theorem dX6_grows_18 : decode cX6_grows 18 = .ok (.iconst 1, 1) := by decide +kernel
theorem dX6_grows_19 : decode cX6_grows 19 = .ok (.goto 4, 3) := by decide +kernel
theorem dX6_grows_22 : decode cX6_grows 22 = .ok (.iconst 0, 1) := by decide +kernel
theorem dX6_grows_23 : decode cX6_grows 23 = .ok (.bastore, 1) := by decide +kernel
theorem dX6_grows_24 : decode cX6_grows 24 = .ok (.aload_n 0, 1) := by decide +kernel
theorem dX6_grows_25 : decode cX6_grows 25 = .ok (.getfield 65, 3) := by decide +kernel
theorem dX6_grows_28 : decode cX6_grows 28 = .ok (.iload_n 2, 1) := by decide +kernel
theorem dX6_grows_29 : decode cX6_grows 29 = .ok (.iload_n 2, 1) := by decide +kernel
theorem dX6_grows_30 : decode cX6_grows 30 = .ok (.iconst 1, 1) := by decide +kernel
theorem dX6_grows_31 : decode cX6_grows 31 = .ok (.if_icmp .ne 7, 3) := by decide +kernel
theorem dX6_grows_34 : decode cX6_grows 34 = .ok (.iconst 0, 1) := by decide +kernel
theorem dX6_grows_35 : decode cX6_grows 35 = .ok (.goto 4, 3) := by decide +kernel
theorem dX6_grows_38 : decode cX6_grows 38 = .ok (.iconst (-1), 1) := by decide +kernel
theorem dX6_grows_39 : decode cX6_grows 39 = .ok (.iastore, 1) := by decide +kernel
theorem dX6_grows_40 : decode cX6_grows 40 = .ok (.aload_n 0, 1) := by decide +kernel
theorem dX6_grows_41 : decode cX6_grows 41 = .ok (.getfield 68, 3) := by decide +kernel
theorem dX6_grows_44 : decode cX6_grows 44 = .ok (.iload_n 2, 1) := by decide +kernel
theorem dX6_grows_45 : decode cX6_grows 45 = .ok (.iload_n 2, 1) := by decide +kernel
theorem dX6_grows_46 : decode cX6_grows 46 = .ok (.iconst 1, 1) := by decide +kernel
theorem dX6_grows_47 : decode cX6_grows 47 = .ok (.if_icmp .ne 8, 3) := by decide +kernel
theorem dX6_grows_50 : decode cX6_grows 50 = .ok (.bipush 99, 2) := by decide +kernel
theorem dX6_grows_52 : decode cX6_grows 52 = .ok (.goto 4, 3) := by decide +kernel
theorem dX6_grows_55 : decode cX6_grows 55 = .ok (.iconst (-1), 1) := by decide +kernel
theorem dX6_grows_56 : decode cX6_grows 56 = .ok (.iastore, 1) := by decide +kernel
theorem dX6_grows_57 : decode cX6_grows 57 = .ok (.aload_n 0, 1) := by decide +kernel
theorem dX6_grows_58 : decode cX6_grows 58 = .ok (.getfield 71, 3) := by decide +kernel
theorem dX6_grows_61 : decode cX6_grows 61 = .ok (.iload_n 2, 1) := by decide +kernel
theorem dX6_grows_62 : decode cX6_grows 62 = .ok (.iconst 0, 1) := by decide +kernel
theorem dX6_grows_63 : decode cX6_grows 63 = .ok (.iastore, 1) := by decide +kernel
theorem dX6_grows_64 : decode cX6_grows 64 = .ok (.iinc 2 1, 3) := by decide +kernel
theorem dX6_grows_67 : decode cX6_grows 67 = .ok (.goto (-65), 3) := by decide +kernel
theorem dX6_grows_70 : decode cX6_grows 70 = .ok (.iconst 0, 1) := by decide +kernel
theorem dX6_grows_71 : decode cX6_grows 71 = .ok (.istore_n 2, 1) := by decide +kernel
theorem dX6_grows_72 : decode cX6_grows 72 = .ok (.iload_n 2, 1) := by decide +kernel
theorem dX6_grows_73 : decode cX6_grows 73 = .ok (.sipush 168, 3) := by decide +kernel
theorem dX6_grows_76 : decode cX6_grows 76 = .ok (.if_icmp .ge 16, 3) := by decide +kernel
theorem dX6_grows_79 : decode cX6_grows 79 = .ok (.aload_n 0, 1) := by decide +kernel
theorem dX6_grows_80 : decode cX6_grows 80 = .ok (.getfield 74, 3) := by decide +kernel
theorem dX6_grows_83 : decode cX6_grows 83 = .ok (.iload_n 2, 1) := by decide +kernel
theorem dX6_grows_84 : decode cX6_grows 84 = .ok (.iconst (-1), 1) := by decide +kernel
theorem dX6_grows_85 : decode cX6_grows 85 = .ok (.iastore, 1) := by decide +kernel
theorem dX6_grows_86 : decode cX6_grows 86 = .ok (.iinc 2 1, 3) := by decide +kernel
theorem dX6_grows_89 : decode cX6_grows 89 = .ok (.goto (-17), 3) := by decide +kernel
theorem dX6_grows_92 : decode cX6_grows 92 = .ok (.iconst (-1), 1) := by decide +kernel
theorem dX6_grows_93 : decode cX6_grows 93 = .ok (.istore_n 2, 1) := by decide +kernel
theorem dX6_grows_94 : decode cX6_grows 94 = .ok (.aload_n 0, 1) := by decide +kernel
theorem dX6_grows_95 : decode cX6_grows 95 = .ok (.iload_n 1, 1) := by decide +kernel
theorem dX6_grows_96 : decode cX6_grows 96 = .ok (.iload_n 2, 1) := by decide +kernel
theorem dX6_grows_97 : decode cX6_grows 97 = .ok (.invokevirtual 112, 3) := by decide +kernel
theorem dX6_grows_100 : decode cX6_grows 100 = .ok (.istore_n 3, 1) := by decide +kernel
theorem dX6_grows_101 : decode cX6_grows 101 = .ok (.iload_n 3, 1) := by decide +kernel
theorem dX6_grows_102 : decode cX6_grows 102 = .ok (.ifCond .lt 34, 3) := by decide +kernel
theorem dX6_grows_105 : decode cX6_grows 105 = .ok (.aload_n 0, 1) := by decide +kernel
theorem dX6_grows_106 : decode cX6_grows 106 = .ok (.iload_n 3, 1) := by decide +kernel
theorem dX6_grows_107 : decode cX6_grows 107 = .ok (.invokevirtual 116, 3) := by decide +kernel
theorem dX6_grows_110 : decode cX6_grows 110 = .ok (.iconst 2, 1) := by decide +kernel
theorem dX6_grows_111 : decode cX6_grows 111 = .ok (.aload_n 0, 1) := by decide +kernel
theorem dX6_grows_112 : decode cX6_grows 112 = .ok (.getfield 34, 3) := by decide +kernel
theorem dX6_grows_115 : decode cX6_grows 115 = .ok (.iload_n 3, 1) := by decide +kernel
theorem dX6_grows_116 : decode cX6_grows 116 = .ok (.iaload, 1) := by decide +kernel
theorem dX6_grows_117 : decode cX6_grows 117 = .ok (.imul, 1) := by decide +kernel
theorem dX6_grows_118 : decode cX6_grows 118 = .ok (.aload_n 0, 1) := by decide +kernel
theorem dX6_grows_119 : decode cX6_grows 119 = .ok (.getfield 37, 3) := by decide +kernel
theorem dX6_grows_122 : decode cX6_grows 122 = .ok (.iload_n 3, 1) := by decide +kernel
theorem dX6_grows_123 : decode cX6_grows 123 = .ok (.iaload, 1) := by decide +kernel
theorem dX6_grows_124 : decode cX6_grows 124 = .ok (.iadd, 1) := by decide +kernel
theorem dX6_grows_125 : decode cX6_grows 125 = .ok (.istore_n 2, 1) := by decide +kernel
theorem dX6_grows_126 : decode cX6_grows 126 = .ok (.aload_n 0, 1) := by decide +kernel
theorem dX6_grows_127 : decode cX6_grows 127 = .ok (.iload_n 1, 1) := by decide +kernel
theorem dX6_grows_128 : decode cX6_grows 128 = .ok (.iload_n 2, 1) := by decide +kernel
theorem dX6_grows_129 : decode cX6_grows 129 = .ok (.invokevirtual 112, 3) := by decide +kernel
theorem dX6_grows_132 : decode cX6_grows 132 = .ok (.istore_n 3, 1) := by decide +kernel
theorem dX6_grows_133 : decode cX6_grows 133 = .ok (.goto (-32), 3) := by decide +kernel
theorem dX6_grows_136 : decode cX6_grows 136 = .ok (.return_, 1) := by decide +kernel
set_option maxRecDepth 20000 in
theorem ggX6_isHere_X6_isMaster : GoodIn wsX6_isHere wsX6_isMaster := goodIn_r _ [5, 6, 7, 4, 8] (by decide +kernel) (by decide +kernel)
set_option maxRecDepth 20000 in
theorem gX6_isHere_X6_isMaster : GoodIn wsX6_isHere (va_wsS RX6 120 yX6_isMaster wsX6_isMaster) := goodIn_app (goodIn_of _ (by decide +kernel)) ggX6_isHere_X6_isMaster
set_option maxRecDepth 20000 in
theorem ggX6_isHere_X6_grows : GoodIn wsX6_isHere wsX6_grows := goodIn_r _ [12, 1, 13, 14, 15, 16, 17, 18, 19, 20, 21, 4, 22, 23, 24, 25, 26, 27, 28, 29, 30, 31, 32, 33, 34, 35, 36, 37, 38, 39, 40, 41, 42, 43, 44, 45, 46, 47, 48, 49, 50, 51, 52, 53, 54, 55, 56, 57, 58, 59, 60, 61, 62, 63, 64, 65, 66, 67, 68, 69, 70, 71, 72, 73, 74, 75, 76, 77, 78, 79, 80, 81, 82, 83, 84] (by decide +kernel) (by decide +kernel)
set_option maxRecDepth 20000 in
theorem gX6_isHere_X6_grows : GoodIn wsX6_isHere (wsV RX6 124 RX6 yX6_grows wsX6_grows) := goodIn_app (goodIn_of _ (by decide +kernel)) ggX6_isHere_X6_grows
set_option maxRecDepth 20000 in
theorem ggX6_isHere_X6_isIn : GoodIn wsX6_isHere wsX6_isIn := goodIn_r _ [8] (by decide +kernel) (by decide +kernel)
set_option maxRecDepth 20000 in
theorem gX6_isHere_X6_isIn : GoodIn wsX6_isHere (va_wsS RX6 84 yX6_isIn wsX6_isIn) := goodIn_app (goodIn_of _ (by decide +kernel)) ggX6_isHere_X6_isIn
theorem dX6_isHere_0 : decode cX6_isHere 0 = .ok (.iload_n 1, 1) := by decide +kernel
theorem dX6_isHere_1 : decode cX6_isHere 1 = .ok (.invokestatic 120, 3) := by decide +kernel
theorem dX6_isHere_4 : decode cX6_isHere 4 = .ok (.ifCond .ne 5, 3) := by decide +kernel
theorem dX6_isHere_7 : decode cX6_isHere 7 = .ok (.iconst 0, 1) := by decide +kernel
theorem dX6_isHere_8 : decode cX6_isHere 8 = .ok (.ireturn, 1) := by decide +kernel
theorem dX6_isHere_9 : decode cX6_isHere 9 = .ok (.aload_n 0, 1) := by decide +kernel
theorem dX6_isHere_10 : decode cX6_isHere 10 = .ok (.iload_n 1, 1) := by decide +kernel
theorem dX6_isHere_11 : decode cX6_isHere 11 = .ok (.invokevirtual 124, 3) := by decide +kernel
theorem dX6_isHere_14 : decode cX6_isHere 14 = .ok (.iload_n 2, 1) := by decide +kernel
theorem dX6_isHere_15 : decode cX6_isHere 15 = .ok (.iconst 0, 1) := by decide +kernel
theorem dX6_isHere_16 : decode cX6_isHere 16 = .ok (.bipush 41, 2) := by decide +kernel
theorem dX6_isHere_18 : decode cX6_isHere 18 = .ok (.invokestatic 84, 3) := by decide +kernel
theorem dX6_isHere_21 : decode cX6_isHere 21 = .ok (.ifCond .eq 16, 3) := by decide +kernel
theorem dX6_isHere_24 : decode cX6_isHere 24 = .ok (.aload_n 0, 1) := by decide +kernel
theorem dX6_isHere_25 : decode cX6_isHere 25 = .ok (.getfield 62, 3) := by decide +kernel
theorem dX6_isHere_28 : decode cX6_isHere 28 = .ok (.iload_n 2, 1) := by decide +kernel
theorem dX6_isHere_29 : decode cX6_isHere 29 = .ok (.baload, 1) := by decide +kernel
theorem dX6_isHere_30 : decode cX6_isHere 30 = .ok (.ifCond .eq 7, 3) := by decide +kernel
theorem dX6_isHere_33 : decode cX6_isHere 33 = .ok (.iconst 1, 1) := by decide +kernel
theorem dX6_isHere_34 : decode cX6_isHere 34 = .ok (.goto 4, 3) := by decide +kernel
theorem dX6_isHere_37 : decode cX6_isHere 37 = .ok (.iconst 0, 1) := by decide +kernel
theorem dX6_isHere_38 : decode cX6_isHere 38 = .ok (.ireturn, 1) := by decide +kernel
set_option maxRecDepth 20000 in
theorem ggX6_made_X6_knows : GoodIn wsX6_made wsX6_knows := goodIn_r _ [11, 6, 12, 13, 14, 15, 16, 17, 18, 19, 20, 21, 22, 23, 24, 25, 26, 27, 28, 29, 30, 31, 32, 33, 34, 35, 36, 37] (by decide +kernel) (by decide +kernel)
set_option maxRecDepth 20000 in
theorem gX6_made_X6_knows : GoodIn wsX6_made (wsV RX6 109 RX6 yX6_knows wsX6_knows) := goodIn_app (goodIn_of _ (by decide +kernel)) ggX6_made_X6_knows
theorem dX6_made_0 : decode cX6_made 0 = .ok (.iconst 0, 1) := by decide +kernel
theorem dX6_made_1 : decode cX6_made 1 = .ok (.istore 4, 2) := by decide +kernel
theorem dX6_made_3 : decode cX6_made 3 = .ok (.iconst 0, 1) := by decide +kernel
theorem dX6_made_4 : decode cX6_made 4 = .ok (.istore 5, 2) := by decide +kernel
theorem dX6_made_6 : decode cX6_made 6 = .ok (.iload 5, 2) := by decide +kernel
theorem dX6_made_8 : decode cX6_made 8 = .ok (.aload_n 0, 1) := by decide +kernel
theorem dX6_made_9 : decode cX6_made 9 = .ok (.getfield 88, 3) := by decide +kernel
theorem dX6_made_12 : decode cX6_made 12 = .ok (.if_icmp .ge 45, 3) := by decide +kernel
theorem dX6_made_15 : decode cX6_made 15 = .ok (.aload_n 0, 1) := by decide +kernel
theorem dX6_made_16 : decode cX6_made 16 = .ok (.iload 5, 2) := by decide +kernel
theorem dX6_made_18 : decode cX6_made 18 = .ok (.iload_n 1, 1) := by decide +kernel
theorem dX6_made_19 : decode cX6_made 19 = .ok (.invokevirtual 109, 3) := by decide +kernel
theorem dX6_made_22 : decode cX6_made 22 = .ok (.ifCond .eq 25, 3) := by decide +kernel
theorem dX6_made_25 : decode cX6_made 25 = .ok (.aload_n 0, 1) := by decide +kernel
theorem dX6_made_26 : decode cX6_made 26 = .ok (.getfield 34, 3) := by decide +kernel
theorem dX6_made_29 : decode cX6_made 29 = .ok (.iload 5, 2) := by decide +kernel
theorem dX6_made_31 : decode cX6_made 31 = .ok (.iaload, 1) := by decide +kernel
theorem dX6_made_32 : decode cX6_made 32 = .ok (.iload 4, 2) := by decide +kernel
theorem dX6_made_34 : decode cX6_made 34 = .ok (.if_icmp .le 13, 3) := by decide +kernel
theorem dX6_made_37 : decode cX6_made 37 = .ok (.aload_n 0, 1) := by decide +kernel
theorem dX6_made_38 : decode cX6_made 38 = .ok (.getfield 34, 3) := by decide +kernel
theorem dX6_made_41 : decode cX6_made 41 = .ok (.iload 5, 2) := by decide +kernel
theorem dX6_made_43 : decode cX6_made 43 = .ok (.iaload, 1) := by decide +kernel
theorem dX6_made_44 : decode cX6_made 44 = .ok (.goto 5, 3) := by decide +kernel
theorem dX6_made_47 : decode cX6_made 47 = .ok (.iload 4, 2) := by decide +kernel
theorem dX6_made_49 : decode cX6_made 49 = .ok (.istore 4, 2) := by decide +kernel
theorem dX6_made_51 : decode cX6_made 51 = .ok (.iinc 5 1, 3) := by decide +kernel
theorem dX6_made_54 : decode cX6_made 54 = .ok (.goto (-48), 3) := by decide +kernel
theorem dX6_made_57 : decode cX6_made 57 = .ok (.aload_n 0, 1) := by decide +kernel
theorem dX6_made_58 : decode cX6_made 58 = .ok (.getfield 16, 3) := by decide +kernel
theorem dX6_made_61 : decode cX6_made 61 = .ok (.aload_n 0, 1) := by decide +kernel
theorem dX6_made_62 : decode cX6_made 62 = .ok (.getfield 88, 3) := by decide +kernel
theorem dX6_made_65 : decode cX6_made 65 = .ok (.iload_n 2, 1) := by decide +kernel
theorem dX6_made_66 : decode cX6_made 66 = .ok (.iastore, 1) := by decide +kernel
theorem dX6_made_67 : decode cX6_made 67 = .ok (.aload_n 0, 1) := by decide +kernel
theorem dX6_made_68 : decode cX6_made 68 = .ok (.getfield 19, 3) := by decide +kernel
theorem dX6_made_71 : decode cX6_made 71 = .ok (.aload_n 0, 1) := by decide +kernel
theorem dX6_made_72 : decode cX6_made 72 = .ok (.getfield 88, 3) := by decide +kernel
theorem dX6_made_75 : decode cX6_made 75 = .ok (.iload_n 3, 1) := by decide +kernel
theorem dX6_made_76 : decode cX6_made 76 = .ok (.iastore, 1) := by decide +kernel
theorem dX6_made_77 : decode cX6_made 77 = .ok (.aload_n 0, 1) := by decide +kernel
theorem dX6_made_78 : decode cX6_made 78 = .ok (.getfield 34, 3) := by decide +kernel
theorem dX6_made_81 : decode cX6_made 81 = .ok (.aload_n 0, 1) := by decide +kernel
theorem dX6_made_82 : decode cX6_made 82 = .ok (.getfield 88, 3) := by decide +kernel
theorem dX6_made_85 : decode cX6_made 85 = .ok (.iload 4, 2) := by decide +kernel
theorem dX6_made_87 : decode cX6_made 87 = .ok (.iconst 1, 1) := by decide +kernel
theorem dX6_made_88 : decode cX6_made 88 = .ok (.iadd, 1) := by decide +kernel
theorem dX6_made_89 : decode cX6_made 89 = .ok (.iastore, 1) := by decide +kernel
theorem dX6_made_90 : decode cX6_made 90 = .ok (.aload_n 0, 1) := by decide +kernel
theorem dX6_made_91 : decode cX6_made 91 = .ok (.getfield 37, 3) := by decide +kernel
theorem dX6_made_94 : decode cX6_made 94 = .ok (.aload_n 0, 1) := by decide +kernel
theorem dX6_made_95 : decode cX6_made 95 = .ok (.getfield 88, 3) := by decide +kernel
theorem dX6_made_98 : decode cX6_made 98 = .ok (.iload_n 1, 1) := by decide +kernel
theorem dX6_made_99 : decode cX6_made 99 = .ok (.iastore, 1) := by decide +kernel
theorem dX6_made_100 : decode cX6_made 100 = .ok (.aload_n 0, 1) := by decide +kernel
theorem dX6_made_101 : decode cX6_made 101 = .ok (.getfield 40, 3) := by decide +kernel
theorem dX6_made_104 : decode cX6_made 104 = .ok (.aload_n 0, 1) := by decide +kernel
theorem dX6_made_105 : decode cX6_made 105 = .ok (.getfield 88, 3) := by decide +kernel
theorem dX6_made_108 : decode cX6_made 108 = .ok (.iconst 1, 1) := by decide +kernel
theorem dX6_made_109 : decode cX6_made 109 = .ok (.iload_n 1, 1) := by decide +kernel
theorem dX6_made_110 : decode cX6_made 110 = .ok (.ishl, 1) := by decide +kernel
theorem dX6_made_111 : decode cX6_made 111 = .ok (.iastore, 1) := by decide +kernel
theorem dX6_made_112 : decode cX6_made 112 = .ok (.aload_n 0, 1) := by decide +kernel
theorem dX6_made_113 : decode cX6_made 113 = .ok (.dup, 1) := by decide +kernel
theorem dX6_made_114 : decode cX6_made 114 = .ok (.getfield 88, 3) := by decide +kernel
theorem dX6_made_117 : decode cX6_made 117 = .ok (.iconst 1, 1) := by decide +kernel
theorem dX6_made_118 : decode cX6_made 118 = .ok (.iadd, 1) := by decide +kernel
theorem dX6_made_119 : decode cX6_made 119 = .ok (.putfield 88, 3) := by decide +kernel
theorem dX6_made_122 : decode cX6_made 122 = .ok (.aload_n 0, 1) := by decide +kernel
theorem dX6_made_123 : decode cX6_made 123 = .ok (.getfield 88, 3) := by decide +kernel
theorem dX6_made_126 : decode cX6_made 126 = .ok (.iconst 1, 1) := by decide +kernel
theorem dX6_made_127 : decode cX6_made 127 = .ok (.isub, 1) := by decide +kernel
theorem dX6_made_128 : decode cX6_made 128 = .ok (.ireturn, 1) := by decide +kernel
set_option maxRecDepth 20000 in
theorem ggX6_add_X6_isHere : GoodIn wsX6_add wsX6_isHere := goodIn_r _ [10, 11, 12, 13, 9, 14, 15, 16, 17, 18, 19, 20, 21, 22, 23, 24, 25, 26, 27, 28, 29, 30, 31, 1, 32, 33, 34, 35, 36, 37, 38, 39, 40, 41, 42, 5, 4, 3, 43, 44, 45, 46, 47, 48, 49, 50, 51, 52, 53, 54, 55, 56, 57, 58, 59, 60, 61, 62, 63, 68, 69, 70, 71, 72, 73, 74, 75, 76, 77, 78, 79, 80, 81, 82, 83, 84, 85, 86, 87, 88, 89, 90, 91, 92, 93] (by decide +kernel) (by decide +kernel)
set_option maxRecDepth 20000 in
theorem gX6_add_X6_isHere : GoodIn wsX6_add (wsV RX6 127 RX6 yX6_isHere wsX6_isHere) := goodIn_app (goodIn_of _ (by decide +kernel)) ggX6_add_X6_isHere
set_option maxRecDepth 20000 in
theorem ggX6_add_X6_isIn : GoodIn wsX6_add wsX6_isIn := goodIn_r _ [17] (by decide +kernel) (by decide +kernel)
set_option maxRecDepth 20000 in
theorem gX6_add_X6_isIn : GoodIn wsX6_add (va_wsS RX6 84 yX6_isIn wsX6_isIn) := goodIn_app (goodIn_of _ (by decide +kernel)) ggX6_add_X6_isIn
set_option maxRecDepth 20000 in
theorem ggX6_add_X6_finds : GoodIn wsX6_add wsX6_finds := goodIn_r _ [51, 11, 22, 23, 52, 53, 9, 54, 68, 69, 70, 71, 72, 73, 74, 75, 76, 77, 78, 79, 80, 81, 82, 83, 84, 85, 86, 87, 88, 89, 90, 91, 92, 93] (by decide +kernel) (by decide +kernel)
set_option maxRecDepth 20000 in
theorem gX6_add_X6_finds : GoodIn wsX6_add (wsV RX6 95 RX6 yX6_finds wsX6_finds) := goodIn_app (goodIn_of _ (by decide +kernel)) ggX6_add_X6_finds
set_option maxRecDepth 20000 in
theorem ggX6_add_X6_made : GoodIn wsX6_add wsX6_made := goodIn_r _ [67, 1, 26, 42, 41, 27, 36, 32, 33, 34, 9, 35, 68, 69, 70, 71, 72, 73, 74, 75, 76, 77, 78, 79, 80, 81, 82, 83, 84, 85, 86, 87, 88, 89, 90, 91, 92, 93] (by decide +kernel) (by decide +kernel)
set_option maxRecDepth 20000 in
theorem gX6_add_X6_made : GoodIn wsX6_add (wsV RX6 130 RX6 yX6_made wsX6_made) := goodIn_app (goodIn_of _ (by decide +kernel)) ggX6_add_X6_made
theorem dX6_add_0 : decode cX6_add 0 = .ok (.aload_n 0, 1) := by decide +kernel
theorem dX6_add_1 : decode cX6_add 1 = .ok (.aload_n 0, 1) := by decide +kernel
theorem dX6_add_2 : decode cX6_add 2 = .ok (.iload_n 1, 1) := by decide +kernel
theorem dX6_add_3 : decode cX6_add 3 = .ok (.iload_n 2, 1) := by decide +kernel
theorem dX6_add_4 : decode cX6_add 4 = .ok (.invokevirtual 127, 3) := by decide +kernel
theorem dX6_add_7 : decode cX6_add 7 = .ok (.ifCond .eq 13, 3) := by decide +kernel
theorem dX6_add_10 : decode cX6_add 10 = .ok (.iload 4, 2) := by decide +kernel
theorem dX6_add_12 : decode cX6_add 12 = .ok (.iconst 0, 1) := by decide +kernel
theorem dX6_add_13 : decode cX6_add 13 = .ok (.iconst 2, 1) := by decide +kernel
theorem dX6_add_14 : decode cX6_add 14 = .ok (.invokestatic 84, 3) := by decide +kernel
theorem dX6_add_17 : decode cX6_add 17 = .ok (.ifCond .ne 7, 3) := by decide +kernel
theorem dX6_add_20 : decode cX6_add 20 = .ok (.iconst 1, 1) := by decide +kernel
theorem dX6_add_21 : decode cX6_add 21 = .ok (.goto 41, 3) := by decide +kernel
theorem dX6_add_24 : decode cX6_add 24 = .ok (.iload_n 3, 1) := by decide +kernel
theorem dX6_add_25 : decode cX6_add 25 = .ok (.iconst 0, 1) := by decide +kernel
theorem dX6_add_26 : decode cX6_add 26 = .ok (.bipush 99, 2) := by decide +kernel
theorem dX6_add_28 : decode cX6_add 28 = .ok (.invokestatic 84, 3) := by decide +kernel
theorem dX6_add_31 : decode cX6_add 31 = .ok (.ifCond .ne 7, 3) := by decide +kernel
theorem dX6_add_34 : decode cX6_add 34 = .ok (.iconst 2, 1) := by decide +kernel
theorem dX6_add_35 : decode cX6_add 35 = .ok (.goto 27, 3) := by decide +kernel
theorem dX6_add_38 : decode cX6_add 38 = .ok (.aload_n 0, 1) := by decide +kernel
theorem dX6_add_39 : decode cX6_add 39 = .ok (.getfield 88, 3) := by decide +kernel
theorem dX6_add_42 : decode cX6_add 42 = .ok (.bipush 40, 2) := by decide +kernel
theorem dX6_add_44 : decode cX6_add 44 = .ok (.if_icmp .eq 13, 3) := by decide +kernel
theorem dX6_add_47 : decode cX6_add 47 = .ok (.aload_n 0, 1) := by decide +kernel
theorem dX6_add_48 : decode cX6_add 48 = .ok (.iload_n 2, 1) := by decide +kernel
theorem dX6_add_49 : decode cX6_add 49 = .ok (.iload_n 3, 1) := by decide +kernel
theorem dX6_add_50 : decode cX6_add 50 = .ok (.iconst (-1), 1) := by decide +kernel
theorem dX6_add_51 : decode cX6_add 51 = .ok (.invokevirtual 95, 3) := by decide +kernel
theorem dX6_add_54 : decode cX6_add 54 = .ok (.ifCond .lt 7, 3) := by decide +kernel
theorem dX6_add_57 : decode cX6_add 57 = .ok (.iconst 3, 1) := by decide +kernel
theorem dX6_add_58 : decode cX6_add 58 = .ok (.goto 4, 3) := by decide +kernel
theorem dX6_add_61 : decode cX6_add 61 = .ok (.iconst 0, 1) := by decide +kernel
theorem dX6_add_62 : decode cX6_add 62 = .ok (.putfield 80, 3) := by decide +kernel
theorem dX6_add_65 : decode cX6_add 65 = .ok (.aload_n 0, 1) := by decide +kernel
theorem dX6_add_66 : decode cX6_add 66 = .ok (.getfield 80, 3) := by decide +kernel
theorem dX6_add_69 : decode cX6_add 69 = .ok (.ifCond .le 5, 3) := by decide +kernel
theorem dX6_add_72 : decode cX6_add 72 = .ok (.iconst 0, 1) := by decide +kernel
theorem dX6_add_73 : decode cX6_add 73 = .ok (.ireturn, 1) := by decide +kernel
theorem dX6_add_74 : decode cX6_add 74 = .ok (.aload_n 0, 1) := by decide +kernel
theorem dX6_add_75 : decode cX6_add 75 = .ok (.iload_n 1, 1) := by decide +kernel
theorem dX6_add_76 : decode cX6_add 76 = .ok (.iconst 0, 1) := by decide +kernel
theorem dX6_add_77 : decode cX6_add 77 = .ok (.aload_n 0, 1) := by decide +kernel
theorem dX6_add_78 : decode cX6_add 78 = .ok (.getfield 88, 3) := by decide +kernel
theorem dX6_add_81 : decode cX6_add 81 = .ok (.iconst 2, 1) := by decide +kernel
theorem dX6_add_82 : decode cX6_add 82 = .ok (.iadd, 1) := by decide +kernel
theorem dX6_add_83 : decode cX6_add 83 = .ok (.invokevirtual 130, 3) := by decide +kernel
theorem dX6_add_86 : decode cX6_add 86 = .ok (.istore 5, 2) := by decide +kernel
theorem dX6_add_88 : decode cX6_add 88 = .ok (.aload_n 0, 1) := by decide +kernel
theorem dX6_add_89 : decode cX6_add 89 = .ok (.getfield 22, 3) := by decide +kernel
theorem dX6_add_92 : decode cX6_add 92 = .ok (.iload 5, 2) := by decide +kernel
theorem dX6_add_94 : decode cX6_add 94 = .ok (.iload_n 2, 1) := by decide +kernel
theorem dX6_add_95 : decode cX6_add 95 = .ok (.iastore, 1) := by decide +kernel
theorem dX6_add_96 : decode cX6_add 96 = .ok (.aload_n 0, 1) := by decide +kernel
theorem dX6_add_97 : decode cX6_add 97 = .ok (.getfield 25, 3) := by decide +kernel
theorem dX6_add_100 : decode cX6_add 100 = .ok (.iload 5, 2) := by decide +kernel
theorem dX6_add_102 : decode cX6_add 102 = .ok (.iload_n 3, 1) := by decide +kernel
theorem dX6_add_103 : decode cX6_add 103 = .ok (.iastore, 1) := by decide +kernel
theorem dX6_add_104 : decode cX6_add 104 = .ok (.aload_n 0, 1) := by decide +kernel
theorem dX6_add_105 : decode cX6_add 105 = .ok (.getfield 28, 3) := by decide +kernel
theorem dX6_add_108 : decode cX6_add 108 = .ok (.iload 5, 2) := by decide +kernel
theorem dX6_add_110 : decode cX6_add 110 = .ok (.iload 4, 2) := by decide +kernel
theorem dX6_add_112 : decode cX6_add 112 = .ok (.iastore, 1) := by decide +kernel
theorem dX6_add_113 : decode cX6_add 113 = .ok (.iload 5, 2) := by decide +kernel
theorem dX6_add_115 : decode cX6_add 115 = .ok (.iconst 2, 1) := by decide +kernel
theorem dX6_add_116 : decode cX6_add 116 = .ok (.iadd, 1) := by decide +kernel
theorem dX6_add_117 : decode cX6_add 117 = .ok (.ireturn, 1) := by decide +kernel
set_option maxRecDepth 20000 in
theorem ggX6_set_X6_isHere : GoodIn wsX6_set wsX6_isHere := goodIn_r _ [10, 11, 12, 13, 9, 14, 15, 16, 17, 18, 19, 20, 21, 22, 23, 24, 5, 25, 26, 27, 28, 29, 30, 1, 31, 32, 33, 34, 35, 36, 37, 38, 39, 40, 41, 3, 42, 43, 4, 44, 45, 46, 47, 48, 49, 50, 51, 52, 53, 54, 55, 56, 57, 58, 59, 60, 61, 62, 63, 68, 69, 70, 71, 72, 73, 74, 75, 76, 77, 78, 79, 80, 81, 82, 83, 84, 85, 86, 87, 88, 89, 90, 91, 92, 93] (by decide +kernel) (by decide +kernel)
set_option maxRecDepth 20000 in
theorem gX6_set_X6_isHere : GoodIn wsX6_set (wsV RX6 127 RX6 yX6_isHere wsX6_isHere) := goodIn_app (goodIn_of _ (by decide +kernel)) ggX6_set_X6_isHere
set_option maxRecDepth 20000 in
theorem ggX6_set_X6_isIn : GoodIn wsX6_set wsX6_isIn := goodIn_r _ [17] (by decide +kernel) (by decide +kernel)
set_option maxRecDepth 20000 in
theorem gX6_set_X6_isIn : GoodIn wsX6_set (va_wsS RX6 84 yX6_isIn wsX6_isIn) := goodIn_app (goodIn_of _ (by decide +kernel)) ggX6_set_X6_isIn
set_option maxRecDepth 20000 in
theorem ggX6_set_X6_allowed : GoodIn wsX6_set wsX6_allowed := goodIn_r _ [58, 59, 24, 68, 69, 70, 71, 72, 73, 74, 75, 76, 77, 78, 79, 80, 81, 82, 83, 84, 85, 86, 87, 88, 89, 90, 91, 92, 93] (by decide +kernel) (by decide +kernel)
set_option maxRecDepth 20000 in
theorem gX6_set_X6_allowed : GoodIn wsX6_set (wsV RX6 103 RX6 yX6_allowed wsX6_allowed) := goodIn_app (goodIn_of _ (by decide +kernel)) ggX6_set_X6_allowed
set_option maxRecDepth 20000 in
theorem ggX6_set_X6_made : GoodIn wsX6_set wsX6_made := goodIn_r _ [67, 1, 25, 41, 40, 26, 35, 31, 32, 33, 9, 34, 68, 69, 70, 71, 72, 73, 74, 75, 76, 77, 78, 79, 80, 81, 82, 83, 84, 85, 86, 87, 88, 89, 90, 91, 92, 93] (by decide +kernel) (by decide +kernel)
set_option maxRecDepth 20000 in
theorem gX6_set_X6_made : GoodIn wsX6_set (wsV RX6 130 RX6 yX6_made wsX6_made) := goodIn_app (goodIn_of _ (by decide +kernel)) ggX6_set_X6_made
theorem dX6_set_0 : decode cX6_set 0 = .ok (.aload_n 0, 1) := by decide +kernel
theorem dX6_set_1 : decode cX6_set 1 = .ok (.aload_n 0, 1) := by decide +kernel
theorem dX6_set_2 : decode cX6_set 2 = .ok (.iload_n 1, 1) := by decide +kernel
theorem dX6_set_3 : decode cX6_set 3 = .ok (.iload_n 2, 1) := by decide +kernel
theorem dX6_set_4 : decode cX6_set 4 = .ok (.invokevirtual 127, 3) := by decide +kernel
theorem dX6_set_7 : decode cX6_set 7 = .ok (.ifCond .eq 12, 3) := by decide +kernel
theorem dX6_set_10 : decode cX6_set 10 = .ok (.iload_n 3, 1) := by decide +kernel
theorem dX6_set_11 : decode cX6_set 11 = .ok (.iconst 0, 1) := by decide +kernel
theorem dX6_set_12 : decode cX6_set 12 = .ok (.iconst 3, 1) := by decide +kernel
theorem dX6_set_13 : decode cX6_set 13 = .ok (.invokestatic 84, 3) := by decide +kernel
theorem dX6_set_16 : decode cX6_set 16 = .ok (.ifCond .ne 7, 3) := by decide +kernel
theorem dX6_set_19 : decode cX6_set 19 = .ok (.iconst 1, 1) := by decide +kernel
theorem dX6_set_20 : decode cX6_set 20 = .ok (.goto 41, 3) := by decide +kernel
theorem dX6_set_23 : decode cX6_set 23 = .ok (.iload 4, 2) := by decide +kernel
theorem dX6_set_25 : decode cX6_set 25 = .ok (.iconst (-1), 1) := by decide +kernel
theorem dX6_set_26 : decode cX6_set 26 = .ok (.bipush 9, 2) := by decide +kernel
theorem dX6_set_28 : decode cX6_set 28 = .ok (.invokestatic 84, 3) := by decide +kernel
theorem dX6_set_31 : decode cX6_set 31 = .ok (.ifCond .ne 7, 3) := by decide +kernel
theorem dX6_set_34 : decode cX6_set 34 = .ok (.iconst 2, 1) := by decide +kernel
theorem dX6_set_35 : decode cX6_set 35 = .ok (.goto 26, 3) := by decide +kernel
theorem dX6_set_38 : decode cX6_set 38 = .ok (.aload_n 0, 1) := by decide +kernel
theorem dX6_set_39 : decode cX6_set 39 = .ok (.getfield 88, 3) := by decide +kernel
theorem dX6_set_42 : decode cX6_set 42 = .ok (.bipush 40, 2) := by decide +kernel
theorem dX6_set_44 : decode cX6_set 44 = .ok (.if_icmp .eq 12, 3) := by decide +kernel
theorem dX6_set_47 : decode cX6_set 47 = .ok (.aload_n 0, 1) := by decide +kernel
theorem dX6_set_48 : decode cX6_set 48 = .ok (.iload_n 2, 1) := by decide +kernel
theorem dX6_set_49 : decode cX6_set 49 = .ok (.iload_n 3, 1) := by decide +kernel
theorem dX6_set_50 : decode cX6_set 50 = .ok (.invokevirtual 103, 3) := by decide +kernel
theorem dX6_set_53 : decode cX6_set 53 = .ok (.ifCond .ne 7, 3) := by decide +kernel
theorem dX6_set_56 : decode cX6_set 56 = .ok (.iconst 3, 1) := by decide +kernel
theorem dX6_set_57 : decode cX6_set 57 = .ok (.goto 4, 3) := by decide +kernel
theorem dX6_set_60 : decode cX6_set 60 = .ok (.iconst 0, 1) := by decide +kernel
theorem dX6_set_61 : decode cX6_set 61 = .ok (.putfield 80, 3) := by decide +kernel
theorem dX6_set_64 : decode cX6_set 64 = .ok (.aload_n 0, 1) := by decide +kernel
theorem dX6_set_65 : decode cX6_set 65 = .ok (.getfield 80, 3) := by decide +kernel
theorem dX6_set_68 : decode cX6_set 68 = .ok (.ifCond .le 5, 3) := by decide +kernel
theorem dX6_set_71 : decode cX6_set 71 = .ok (.iconst 0, 1) := by decide +kernel
theorem dX6_set_72 : decode cX6_set 72 = .ok (.ireturn, 1) := by decide +kernel
theorem dX6_set_73 : decode cX6_set 73 = .ok (.aload_n 0, 1) := by decide +kernel
theorem dX6_set_74 : decode cX6_set 74 = .ok (.iload_n 1, 1) := by decide +kernel
theorem dX6_set_75 : decode cX6_set 75 = .ok (.iconst 1, 1) := by decide +kernel
theorem dX6_set_76 : decode cX6_set 76 = .ok (.iload_n 2, 1) := by decide +kernel
theorem dX6_set_77 : decode cX6_set 77 = .ok (.invokevirtual 130, 3) := by decide +kernel
theorem dX6_set_80 : decode cX6_set 80 = .ok (.istore 5, 2) := by decide +kernel
theorem dX6_set_82 : decode cX6_set 82 = .ok (.aload_n 0, 1) := by decide +kernel
theorem dX6_set_83 : decode cX6_set 83 = .ok (.getfield 28, 3) := by decide +kernel
theorem dX6_set_86 : decode cX6_set 86 = .ok (.iload 5, 2) := by decide +kernel
theorem dX6_set_88 : decode cX6_set 88 = .ok (.iload_n 3, 1) := by decide +kernel
theorem dX6_set_89 : decode cX6_set 89 = .ok (.iastore, 1) := by decide +kernel
theorem dX6_set_90 : decode cX6_set 90 = .ok (.aload_n 0, 1) := by decide +kernel
theorem dX6_set_91 : decode cX6_set 91 = .ok (.getfield 31, 3) := by decide +kernel
theorem dX6_set_94 : decode cX6_set 94 = .ok (.iload 5, 2) := by decide +kernel
theorem dX6_set_96 : decode cX6_set 96 = .ok (.iload 4, 2) := by decide +kernel
theorem dX6_set_98 : decode cX6_set 98 = .ok (.iastore, 1) := by decide +kernel
theorem dX6_set_99 : decode cX6_set 99 = .ok (.aload_n 0, 1) := by decide +kernel
theorem dX6_set_100 : decode cX6_set 100 = .ok (.getfield 74, 3) := by decide +kernel
theorem dX6_set_103 : decode cX6_set 103 = .ok (.iconst 4, 1) := by decide +kernel
theorem dX6_set_104 : decode cX6_set 104 = .ok (.iload_n 2, 1) := by decide +kernel
theorem dX6_set_105 : decode cX6_set 105 = .ok (.imul, 1) := by decide +kernel
theorem dX6_set_106 : decode cX6_set 106 = .ok (.iload_n 3, 1) := by decide +kernel
theorem dX6_set_107 : decode cX6_set 107 = .ok (.iadd, 1) := by decide +kernel
theorem dX6_set_108 : decode cX6_set 108 = .ok (.iaload, 1) := by decide +kernel
theorem dX6_set_109 : decode cX6_set 109 = .ok (.ireturn, 1) := by decide +kernel
set_option maxRecDepth 20000 in
theorem ggX6_move_X6_isHere : GoodIn wsX6_move wsX6_isHere := goodIn_r _ [10, 11, 12, 13, 9, 14, 15, 16, 17, 18, 19, 20, 21, 5, 22, 23, 24, 25, 26, 27, 28, 29, 30, 1, 31, 32, 33, 34, 35, 36, 37, 38, 39, 40, 41, 42, 4, 3, 43, 44, 45, 46, 47, 48, 49, 50, 51, 52, 53, 54, 55, 56, 57, 58, 59, 60, 61, 62, 63, 68, 69, 70, 71, 72, 73, 74, 75, 76, 77, 78, 79, 80, 81, 82, 83, 84, 85, 86, 87, 88, 89, 90, 91, 92, 93] (by decide +kernel) (by decide +kernel)
set_option maxRecDepth 20000 in
theorem gX6_move_X6_isHere : GoodIn wsX6_move (wsV RX6 127 RX6 yX6_isHere wsX6_isHere) := goodIn_app (goodIn_of _ (by decide +kernel)) ggX6_move_X6_isHere
set_option maxRecDepth 20000 in
theorem ggX6_move_X6_isIn : GoodIn wsX6_move wsX6_isIn := goodIn_r _ [17] (by decide +kernel) (by decide +kernel)
set_option maxRecDepth 20000 in
theorem gX6_move_X6_isIn : GoodIn wsX6_move (va_wsS RX6 84 yX6_isIn wsX6_isIn) := goodIn_app (goodIn_of _ (by decide +kernel)) ggX6_move_X6_isIn
set_option maxRecDepth 20000 in
theorem ggX6_move_X6_isWithin : GoodIn wsX6_move wsX6_isWithin := goodIn_r _ [63, 5, 68, 69, 70, 71, 72, 73, 74, 75, 76, 77, 78, 79, 80, 81, 82, 83, 84, 85, 86, 87, 88, 89, 90, 91, 92, 93] (by decide +kernel) (by decide +kernel)
set_option maxRecDepth 20000 in
theorem gX6_move_X6_isWithin : GoodIn wsX6_move (wsV RX6 106 RX6 yX6_isWithin wsX6_isWithin) := goodIn_app (goodIn_of _ (by decide +kernel)) ggX6_move_X6_isWithin
set_option maxRecDepth 20000 in
theorem ggX6_move_X6_finds : GoodIn wsX6_move wsX6_finds := goodIn_r _ [51, 11, 5, 22, 52, 53, 9, 54, 68, 69, 70, 71, 72, 73, 74, 75, 76, 77, 78, 79, 80, 81, 82, 83, 84, 85, 86, 87, 88, 89, 90, 91, 92, 93] (by decide +kernel) (by decide +kernel)
set_option maxRecDepth 20000 in
theorem gX6_move_X6_finds : GoodIn wsX6_move (wsV RX6 95 RX6 yX6_finds wsX6_finds) := goodIn_app (goodIn_of _ (by decide +kernel)) ggX6_move_X6_finds
set_option maxRecDepth 20000 in
theorem ggX6_move_X6_made : GoodIn wsX6_move wsX6_made := goodIn_r _ [67, 1, 25, 41, 40, 26, 35, 31, 32, 33, 9, 34, 68, 69, 70, 71, 72, 73, 74, 75, 76, 77, 78, 79, 80, 81, 82, 83, 84, 85, 86, 87, 88, 89, 90, 91, 92, 93] (by decide +kernel) (by decide +kernel)
set_option maxRecDepth 20000 in
theorem gX6_move_X6_made : GoodIn wsX6_move (wsV RX6 130 RX6 yX6_made wsX6_made) := goodIn_app (goodIn_of _ (by decide +kernel)) ggX6_move_X6_made
theorem dX6_move_0 : decode cX6_move 0 = .ok (.aload_n 0, 1) := by decide +kernel
theorem dX6_move_1 : decode cX6_move 1 = .ok (.iload_n 1, 1) := by decide +kernel
theorem dX6_move_2 : decode cX6_move 2 = .ok (.iload_n 3, 1) := by decide +kernel
theorem dX6_move_3 : decode cX6_move 3 = .ok (.invokevirtual 127, 3) := by decide +kernel
theorem dX6_move_6 : decode cX6_move 6 = .ok (.ifCond .eq 16, 3) := by decide +kernel
theorem dX6_move_9 : decode cX6_move 9 = .ok (.aload_n 0, 1) := by decide +kernel
theorem dX6_move_10 : decode cX6_move 10 = .ok (.iload_n 1, 1) := by decide +kernel
theorem dX6_move_11 : decode cX6_move 11 = .ok (.iload_n 2, 1) := by decide +kernel
theorem dX6_move_12 : decode cX6_move 12 = .ok (.invokevirtual 127, 3) := by decide +kernel
theorem dX6_move_15 : decode cX6_move 15 = .ok (.ifCond .eq 7, 3) := by decide +kernel
theorem dX6_move_18 : decode cX6_move 18 = .ok (.iconst 1, 1) := by decide +kernel
theorem dX6_move_19 : decode cX6_move 19 = .ok (.goto 4, 3) := by decide +kernel
theorem dX6_move_22 : decode cX6_move 22 = .ok (.iconst 0, 1) := by decide +kernel
theorem dX6_move_23 : decode cX6_move 23 = .ok (.istore 5, 2) := by decide +kernel
theorem dX6_move_25 : decode cX6_move 25 = .ok (.aload_n 0, 1) := by decide +kernel
theorem dX6_move_26 : decode cX6_move 26 = .ok (.iload 5, 2) := by decide +kernel
theorem dX6_move_28 : decode cX6_move 28 = .ok (.ifCond .ne 7, 3) := by decide +kernel
theorem dX6_move_31 : decode cX6_move 31 = .ok (.iconst 1, 1) := by decide +kernel
theorem dX6_move_32 : decode cX6_move 32 = .ok (.goto 57, 3) := by decide +kernel
theorem dX6_move_35 : decode cX6_move 35 = .ok (.iload 4, 2) := by decide +kernel
theorem dX6_move_37 : decode cX6_move 37 = .ok (.iconst 0, 1) := by decide +kernel
theorem dX6_move_38 : decode cX6_move 38 = .ok (.bipush 99, 2) := by decide +kernel
theorem dX6_move_40 : decode cX6_move 40 = .ok (.invokestatic 84, 3) := by decide +kernel
theorem dX6_move_43 : decode cX6_move 43 = .ok (.ifCond .ne 7, 3) := by decide +kernel
theorem dX6_move_46 : decode cX6_move 46 = .ok (.iconst 2, 1) := by decide +kernel
theorem dX6_move_47 : decode cX6_move 47 = .ok (.goto 42, 3) := by decide +kernel
theorem dX6_move_50 : decode cX6_move 50 = .ok (.aload_n 0, 1) := by decide +kernel
theorem dX6_move_51 : decode cX6_move 51 = .ok (.getfield 88, 3) := by decide +kernel
theorem dX6_move_54 : decode cX6_move 54 = .ok (.bipush 40, 2) := by decide +kernel
theorem dX6_move_56 : decode cX6_move 56 = .ok (.if_icmp .eq 28, 3) := by decide +kernel
theorem dX6_move_59 : decode cX6_move 59 = .ok (.iload_n 2, 1) := by decide +kernel
theorem dX6_move_60 : decode cX6_move 60 = .ok (.iconst 2, 1) := by decide +kernel
theorem dX6_move_61 : decode cX6_move 61 = .ok (.if_icmp .lt 23, 3) := by decide +kernel
theorem dX6_move_64 : decode cX6_move 64 = .ok (.aload_n 0, 1) := by decide +kernel
theorem dX6_move_65 : decode cX6_move 65 = .ok (.iload_n 3, 1) := by decide +kernel
theorem dX6_move_66 : decode cX6_move 66 = .ok (.iload_n 2, 1) := by decide +kernel
theorem dX6_move_67 : decode cX6_move 67 = .ok (.invokevirtual 106, 3) := by decide +kernel
theorem dX6_move_70 : decode cX6_move 70 = .ok (.ifCond .ne 14, 3) := by decide +kernel
theorem dX6_move_73 : decode cX6_move 73 = .ok (.aload_n 0, 1) := by decide +kernel
theorem dX6_move_74 : decode cX6_move 74 = .ok (.iload_n 3, 1) := by decide +kernel
theorem dX6_move_75 : decode cX6_move 75 = .ok (.iload 4, 2) := by decide +kernel
theorem dX6_move_77 : decode cX6_move 77 = .ok (.iload_n 2, 1) := by decide +kernel
theorem dX6_move_78 : decode cX6_move 78 = .ok (.invokevirtual 95, 3) := by decide +kernel
theorem dX6_move_81 : decode cX6_move 81 = .ok (.ifCond .lt 7, 3) := by decide +kernel
theorem dX6_move_84 : decode cX6_move 84 = .ok (.iconst 3, 1) := by decide +kernel
theorem dX6_move_85 : decode cX6_move 85 = .ok (.goto 4, 3) := by decide +kernel
theorem dX6_move_88 : decode cX6_move 88 = .ok (.iconst 0, 1) := by decide +kernel
theorem dX6_move_89 : decode cX6_move 89 = .ok (.putfield 80, 3) := by decide +kernel
theorem dX6_move_92 : decode cX6_move 92 = .ok (.aload_n 0, 1) := by decide +kernel
theorem dX6_move_93 : decode cX6_move 93 = .ok (.getfield 80, 3) := by decide +kernel
theorem dX6_move_96 : decode cX6_move 96 = .ok (.ifCond .le 5, 3) := by decide +kernel
theorem dX6_move_99 : decode cX6_move 99 = .ok (.iconst 0, 1) := by decide +kernel
theorem dX6_move_100 : decode cX6_move 100 = .ok (.ireturn, 1) := by decide +kernel
theorem dX6_move_101 : decode cX6_move 101 = .ok (.aload_n 0, 1) := by decide +kernel
theorem dX6_move_102 : decode cX6_move 102 = .ok (.iload_n 1, 1) := by decide +kernel
theorem dX6_move_103 : decode cX6_move 103 = .ok (.iconst 2, 1) := by decide +kernel
theorem dX6_move_104 : decode cX6_move 104 = .ok (.iload_n 2, 1) := by decide +kernel
theorem dX6_move_105 : decode cX6_move 105 = .ok (.invokevirtual 130, 3) := by decide +kernel
theorem dX6_move_108 : decode cX6_move 108 = .ok (.istore 6, 2) := by decide +kernel
theorem dX6_move_110 : decode cX6_move 110 = .ok (.aload_n 0, 1) := by decide +kernel
theorem dX6_move_111 : decode cX6_move 111 = .ok (.getfield 22, 3) := by decide +kernel
theorem dX6_move_114 : decode cX6_move 114 = .ok (.iload 6, 2) := by decide +kernel
theorem dX6_move_116 : decode cX6_move 116 = .ok (.iload_n 3, 1) := by decide +kernel
theorem dX6_move_117 : decode cX6_move 117 = .ok (.iastore, 1) := by decide +kernel
theorem dX6_move_118 : decode cX6_move 118 = .ok (.aload_n 0, 1) := by decide +kernel
theorem dX6_move_119 : decode cX6_move 119 = .ok (.getfield 25, 3) := by decide +kernel
theorem dX6_move_122 : decode cX6_move 122 = .ok (.iload 6, 2) := by decide +kernel
theorem dX6_move_124 : decode cX6_move 124 = .ok (.iload 4, 2) := by decide +kernel
theorem dX6_move_126 : decode cX6_move 126 = .ok (.iastore, 1) := by decide +kernel
theorem dX6_move_127 : decode cX6_move 127 = .ok (.aload_n 0, 1) := by decide +kernel
theorem dX6_move_128 : decode cX6_move 128 = .ok (.getfield 65, 3) := by decide +kernel
theorem dX6_move_131 : decode cX6_move 131 = .ok (.iload_n 2, 1) := by decide +kernel
theorem dX6_move_132 : decode cX6_move 132 = .ok (.iaload, 1) := by decide +kernel
theorem dX6_move_133 : decode cX6_move 133 = .ok (.ireturn, 1) := by decide +kernel
theorem dX6_count_0 : decode cX6_count 0 = .ok (.iconst 0, 1) := by decide +kernel
theorem dX6_count_1 : decode cX6_count 1 = .ok (.istore_n 2, 1) := by decide +kernel
theorem dX6_count_2 : decode cX6_count 2 = .ok (.iconst 0, 1) := by decide +kernel
theorem dX6_count_3 : decode cX6_count 3 = .ok (.istore_n 3, 1) := by decide +kernel
theorem dX6_count_4 : decode cX6_count 4 = .ok (.iload_n 3, 1) := by decide +kernel
theorem dX6_count_5 : decode cX6_count 5 = .ok (.bipush 42, 2) := by decide +kernel
theorem dX6_count_7 : decode cX6_count 7 = .ok (.if_icmp .ge 40, 3) := by decide +kernel
theorem dX6_count_10 : decode cX6_count 10 = .ok (.iload_n 2, 1) := by decide +kernel
theorem dX6_count_11 : decode cX6_count 11 = .ok (.aload_n 0, 1) := by decide +kernel
theorem dX6_count_12 : decode cX6_count 12 = .ok (.getfield 62, 3) := by decide +kernel
theorem dX6_count_15 : decode cX6_count 15 = .ok (.iload_n 3, 1) := by decide +kernel
theorem dX6_count_16 : decode cX6_count 16 = .ok (.baload, 1) := by decide +kernel
theorem dX6_count_17 : decode cX6_count 17 = .ok (.ifCond .eq 21, 3) := by decide +kernel
theorem dX6_count_20 : decode cX6_count 20 = .ok (.iload_n 1, 1) := by decide +kernel
theorem dX6_count_21 : decode cX6_count 21 = .ok (.ifCond .lt 13, 3) := by decide +kernel
theorem dX6_count_24 : decode cX6_count 24 = .ok (.aload_n 0, 1) := by decide +kernel
theorem dX6_count_25 : decode cX6_count 25 = .ok (.getfield 65, 3) := by decide +kernel
theorem dX6_count_28 : decode cX6_count 28 = .ok (.iload_n 3, 1) := by decide +kernel
theorem dX6_count_29 : decode cX6_count 29 = .ok (.iaload, 1) := by decide +kernel
theorem dX6_count_30 : decode cX6_count 30 = .ok (.iload_n 1, 1) := by decide +kernel
theorem dX6_count_31 : decode cX6_count 31 = .ok (.if_icmp .ne 7, 3) := by decide +kernel
theorem dX6_count_34 : decode cX6_count 34 = .ok (.iconst 1, 1) := by decide +kernel
theorem dX6_count_35 : decode cX6_count 35 = .ok (.goto 4, 3) := by decide +kernel
theorem dX6_count_38 : decode cX6_count 38 = .ok (.iconst 0, 1) := by decide +kernel
theorem dX6_count_39 : decode cX6_count 39 = .ok (.iadd, 1) := by decide +kernel
theorem dX6_count_40 : decode cX6_count 40 = .ok (.istore_n 2, 1) := by decide +kernel
theorem dX6_count_41 : decode cX6_count 41 = .ok (.iinc 3 1, 3) := by decide +kernel
theorem dX6_count_44 : decode cX6_count 44 = .ok (.goto (-40), 3) := by decide +kernel
theorem dX6_count_47 : decode cX6_count 47 = .ok (.iload_n 2, 1) := by decide +kernel
theorem dX6_count_48 : decode cX6_count 48 = .ok (.ireturn, 1) := by decide +kernel
set_option maxRecDepth 20000 in
theorem ggX6_delete_X6_isHere : GoodIn wsX6_delete wsX6_isHere := goodIn_r _ [7, 8, 9, 10, 6, 11, 12, 13, 14, 15, 16, 17, 18, 19, 20, 21, 22, 23, 24, 25, 26, 27, 28, 1, 29, 30, 31, 32, 33, 34, 35, 36, 37, 38, 39, 40, 41, 42, 43, 44, 45, 46, 47, 48, 49, 50, 51, 52, 53, 54, 55, 56, 57, 58, 59, 60, 61, 62, 63, 72, 73, 74, 75, 76, 77, 78, 79, 80, 81, 82, 83, 84, 85, 86, 87, 88, 89, 90, 91, 92, 93, 94, 95, 96, 97] (by decide +kernel) (by decide +kernel)
set_option maxRecDepth 20000 in
theorem gX6_delete_X6_isHere : GoodIn wsX6_delete (wsV RX6 127 RX6 yX6_isHere wsX6_isHere) := goodIn_app (goodIn_of _ (by decide +kernel)) ggX6_delete_X6_isHere
set_option maxRecDepth 20000 in
theorem ggX6_delete_X6_count : GoodIn wsX6_delete wsX6_count := goodIn_r _ [67, 8, 19, 72, 73, 74, 75, 76, 77, 78, 79, 80, 81, 82, 83, 84, 85, 86, 87, 88, 89, 90, 91, 92, 93, 94, 95, 96, 97] (by decide +kernel) (by decide +kernel)
set_option maxRecDepth 20000 in
theorem gX6_delete_X6_count : GoodIn wsX6_delete (wsV RX6 133 RX6 yX6_count wsX6_count) := goodIn_app (goodIn_of _ (by decide +kernel)) ggX6_delete_X6_count
set_option maxRecDepth 20000 in
theorem ggX6_delete_X6_made : GoodIn wsX6_delete wsX6_made := goodIn_r _ [71, 1, 23, 39, 38, 24, 33, 29, 30, 31, 6, 32, 72, 73, 74, 75, 76, 77, 78, 79, 80, 81, 82, 83, 84, 85, 86, 87, 88, 89, 90, 91, 92, 93, 94, 95, 96, 97] (by decide +kernel) (by decide +kernel)
set_option maxRecDepth 20000 in
theorem gX6_delete_X6_made : GoodIn wsX6_delete (wsV RX6 130 RX6 yX6_made wsX6_made) := goodIn_app (goodIn_of _ (by decide +kernel)) ggX6_delete_X6_made
theorem dX6_delete_0 : decode cX6_delete 0 = .ok (.aload_n 0, 1) := by decide +kernel
theorem dX6_delete_1 : decode cX6_delete 1 = .ok (.aload_n 0, 1) := by decide +kernel
theorem dX6_delete_2 : decode cX6_delete 2 = .ok (.iload_n 1, 1) := by decide +kernel
theorem dX6_delete_3 : decode cX6_delete 3 = .ok (.iload_n 2, 1) := by decide +kernel
theorem dX6_delete_4 : decode cX6_delete 4 = .ok (.invokevirtual 127, 3) := by decide +kernel
theorem dX6_delete_7 : decode cX6_delete 7 = .ok (.ifCond .ne 7, 3) := by decide +kernel
theorem dX6_delete_10 : decode cX6_delete 10 = .ok (.iconst 1, 1) := by decide +kernel
theorem dX6_delete_11 : decode cX6_delete 11 = .ok (.goto 30, 3) := by decide +kernel
theorem dX6_delete_14 : decode cX6_delete 14 = .ok (.aload_n 0, 1) := by decide +kernel
theorem dX6_delete_15 : decode cX6_delete 15 = .ok (.getfield 88, 3) := by decide +kernel
theorem dX6_delete_18 : decode cX6_delete 18 = .ok (.bipush 40, 2) := by decide +kernel
theorem dX6_delete_20 : decode cX6_delete 20 = .ok (.if_icmp .eq 16, 3) := by decide +kernel
theorem dX6_delete_23 : decode cX6_delete 23 = .ok (.iload_n 2, 1) := by decide +kernel
theorem dX6_delete_24 : decode cX6_delete 24 = .ok (.iconst 2, 1) := by decide +kernel
theorem dX6_delete_25 : decode cX6_delete 25 = .ok (.if_icmp .lt 11, 3) := by decide +kernel
theorem dX6_delete_28 : decode cX6_delete 28 = .ok (.aload_n 0, 1) := by decide +kernel
theorem dX6_delete_29 : decode cX6_delete 29 = .ok (.iload_n 2, 1) := by decide +kernel
theorem dX6_delete_30 : decode cX6_delete 30 = .ok (.invokevirtual 133, 3) := by decide +kernel
theorem dX6_delete_33 : decode cX6_delete 33 = .ok (.ifCond .le 7, 3) := by decide +kernel
theorem dX6_delete_36 : decode cX6_delete 36 = .ok (.iconst 2, 1) := by decide +kernel
theorem dX6_delete_37 : decode cX6_delete 37 = .ok (.goto 4, 3) := by decide +kernel
theorem dX6_delete_40 : decode cX6_delete 40 = .ok (.iconst 0, 1) := by decide +kernel
theorem dX6_delete_41 : decode cX6_delete 41 = .ok (.putfield 80, 3) := by decide +kernel
theorem dX6_delete_44 : decode cX6_delete 44 = .ok (.aload_n 0, 1) := by decide +kernel
theorem dX6_delete_45 : decode cX6_delete 45 = .ok (.getfield 80, 3) := by decide +kernel
theorem dX6_delete_48 : decode cX6_delete 48 = .ok (.ifCond .le 5, 3) := by decide +kernel
theorem dX6_delete_51 : decode cX6_delete 51 = .ok (.iconst 0, 1) := by decide +kernel
theorem dX6_delete_52 : decode cX6_delete 52 = .ok (.ireturn, 1) := by decide +kernel
theorem dX6_delete_53 : decode cX6_delete 53 = .ok (.aload_n 0, 1) := by decide +kernel
theorem dX6_delete_54 : decode cX6_delete 54 = .ok (.iload_n 1, 1) := by decide +kernel
theorem dX6_delete_55 : decode cX6_delete 55 = .ok (.iconst 3, 1) := by decide +kernel
theorem dX6_delete_56 : decode cX6_delete 56 = .ok (.iload_n 2, 1) := by decide +kernel
theorem dX6_delete_57 : decode cX6_delete 57 = .ok (.invokevirtual 130, 3) := by decide +kernel
theorem dX6_delete_60 : decode cX6_delete 60 = .ok (.pop, 1) := by decide +kernel
theorem dX6_delete_61 : decode cX6_delete 61 = .ok (.aload_n 0, 1) := by decide +kernel
theorem dX6_delete_62 : decode cX6_delete 62 = .ok (.iconst (-1), 1) := by decide +kernel
theorem dX6_delete_63 : decode cX6_delete 63 = .ok (.invokevirtual 133, 3) := by decide +kernel
theorem dX6_delete_66 : decode cX6_delete 66 = .ok (.iconst 1, 1) := by decide +kernel
theorem dX6_delete_67 : decode cX6_delete 67 = .ok (.isub, 1) := by decide +kernel
theorem dX6_delete_68 : decode cX6_delete 68 = .ok (.ireturn, 1) := by decide +kernel
set_option maxRecDepth 20000 in
theorem ggX6_isChange_X6_isIn : GoodIn wsX6_isChange wsX6_isIn := goodIn_r _ [5] (by decide +kernel) (by decide +kernel)
set_option maxRecDepth 20000 in
theorem gX6_isChange_X6_isIn : GoodIn wsX6_isChange (va_wsS RX6 84 yX6_isIn wsX6_isIn) := goodIn_app (goodIn_of _ (by decide +kernel)) ggX6_isChange_X6_isIn
theorem dX6_isChange_0 : decode cX6_isChange 0 = .ok (.iload_n 1, 1) := by decide +kernel
theorem dX6_isChange_1 : decode cX6_isChange 1 = .ok (.iconst 0, 1) := by decide +kernel
theorem dX6_isChange_2 : decode cX6_isChange 2 = .ok (.aload_n 0, 1) := by decide +kernel
theorem dX6_isChange_3 : decode cX6_isChange 3 = .ok (.getfield 88, 3) := by decide +kernel
theorem dX6_isChange_6 : decode cX6_isChange 6 = .ok (.iconst 1, 1) := by decide +kernel
theorem dX6_isChange_7 : decode cX6_isChange 7 = .ok (.isub, 1) := by decide +kernel
theorem dX6_isChange_8 : decode cX6_isChange 8 = .ok (.invokestatic 84, 3) := by decide +kernel
theorem dX6_isChange_11 : decode cX6_isChange 11 = .ok (.ireturn, 1) := by decide +kernel
set_option maxRecDepth 20000 in
theorem ggX6_carry_X6_isChange : GoodIn wsX6_carry wsX6_isChange := goodIn_r _ [7, 8, 9, 10, 6, 11, 19, 20, 21, 22, 23, 24, 25, 26, 27, 28, 29, 30, 31, 32, 33, 34, 35, 36, 37, 38, 39, 40, 41, 42, 43, 44] (by decide +kernel) (by decide +kernel)
set_option maxRecDepth 20000 in
theorem gX6_carry_X6_isChange : GoodIn wsX6_carry (wsV RX6 137 RX6 yX6_isChange wsX6_isChange) := goodIn_app (goodIn_of _ (by decide +kernel)) ggX6_carry_X6_isChange
set_option maxRecDepth 20000 in
theorem ggX6_carry_X6_isMaster : GoodIn wsX6_carry wsX6_isMaster := goodIn_r _ [14, 9, 10, 6, 11] (by decide +kernel) (by decide +kernel)
set_option maxRecDepth 20000 in
theorem gX6_carry_X6_isMaster : GoodIn wsX6_carry (va_wsS RX6 120 yX6_isMaster wsX6_isMaster) := goodIn_app (goodIn_of _ (by decide +kernel)) ggX6_carry_X6_isMaster
set_option maxRecDepth 20000 in
theorem ggX6_carry_X6_knows : GoodIn wsX6_carry wsX6_knows := goodIn_r _ [18, 2, 19, 20, 21, 22, 23, 24, 25, 26, 27, 28, 29, 30, 31, 32, 33, 34, 35, 36, 37, 38, 39, 40, 41, 42, 43, 44] (by decide +kernel) (by decide +kernel)
set_option maxRecDepth 20000 in
theorem gX6_carry_X6_knows : GoodIn wsX6_carry (wsV RX6 109 RX6 yX6_knows wsX6_knows) := goodIn_app (goodIn_of _ (by decide +kernel)) ggX6_carry_X6_knows
theorem dX6_carry_0 : decode cX6_carry 0 = .ok (.aload_n 0, 1) := by decide +kernel
theorem dX6_carry_1 : decode cX6_carry 1 = .ok (.aload_n 0, 1) := by decide +kernel
theorem dX6_carry_2 : decode cX6_carry 2 = .ok (.iload_n 1, 1) := by decide +kernel
theorem dX6_carry_3 : decode cX6_carry 3 = .ok (.invokevirtual 137, 3) := by decide +kernel
theorem dX6_carry_6 : decode cX6_carry 6 = .ok (.ifCond .eq 14, 3) := by decide +kernel
theorem dX6_carry_9 : decode cX6_carry 9 = .ok (.iload_n 2, 1) := by decide +kernel
theorem dX6_carry_10 : decode cX6_carry 10 = .ok (.invokestatic 120, 3) := by decide +kernel
theorem dX6_carry_13 : decode cX6_carry 13 = .ok (.ifCond .eq 7, 3) := by decide +kernel
theorem dX6_carry_16 : decode cX6_carry 16 = .ok (.iconst 0, 1) := by decide +kernel
theorem dX6_carry_17 : decode cX6_carry 17 = .ok (.goto 4, 3) := by decide +kernel
theorem dX6_carry_20 : decode cX6_carry 20 = .ok (.iconst 1, 1) := by decide +kernel
theorem dX6_carry_21 : decode cX6_carry 21 = .ok (.putfield 80, 3) := by decide +kernel
theorem dX6_carry_24 : decode cX6_carry 24 = .ok (.aload_n 0, 1) := by decide +kernel
theorem dX6_carry_25 : decode cX6_carry 25 = .ok (.getfield 80, 3) := by decide +kernel
theorem dX6_carry_28 : decode cX6_carry 28 = .ok (.ifCond .le 5, 3) := by decide +kernel
theorem dX6_carry_31 : decode cX6_carry 31 = .ok (.iconst 0, 1) := by decide +kernel
theorem dX6_carry_32 : decode cX6_carry 32 = .ok (.ireturn, 1) := by decide +kernel
theorem dX6_carry_33 : decode cX6_carry 33 = .ok (.aload_n 0, 1) := by decide +kernel
theorem dX6_carry_34 : decode cX6_carry 34 = .ok (.iload_n 1, 1) := by decide +kernel
theorem dX6_carry_35 : decode cX6_carry 35 = .ok (.iload_n 2, 1) := by decide +kernel
theorem dX6_carry_36 : decode cX6_carry 36 = .ok (.invokevirtual 109, 3) := by decide +kernel
theorem dX6_carry_39 : decode cX6_carry 39 = .ok (.ifCond .ne 7, 3) := by decide +kernel
theorem dX6_carry_42 : decode cX6_carry 42 = .ok (.iconst 1, 1) := by decide +kernel
theorem dX6_carry_43 : decode cX6_carry 43 = .ok (.goto 4, 3) := by decide +kernel
theorem dX6_carry_46 : decode cX6_carry 46 = .ok (.iconst 0, 1) := by decide +kernel
theorem dX6_carry_47 : decode cX6_carry 47 = .ok (.istore_n 3, 1) := by decide +kernel
theorem dX6_carry_48 : decode cX6_carry 48 = .ok (.aload_n 0, 1) := by decide +kernel
theorem dX6_carry_49 : decode cX6_carry 49 = .ok (.getfield 40, 3) := by decide +kernel
theorem dX6_carry_52 : decode cX6_carry 52 = .ok (.iload_n 1, 1) := by decide +kernel
theorem dX6_carry_53 : decode cX6_carry 53 = .ok (.dup2, 1) := by decide +kernel
theorem dX6_carry_54 : decode cX6_carry 54 = .ok (.iaload, 1) := by decide +kernel
theorem dX6_carry_55 : decode cX6_carry 55 = .ok (.iconst 1, 1) := by decide +kernel
theorem dX6_carry_56 : decode cX6_carry 56 = .ok (.iload_n 2, 1) := by decide +kernel
theorem dX6_carry_57 : decode cX6_carry 57 = .ok (.ishl, 1) := by decide +kernel
theorem dX6_carry_58 : decode cX6_carry 58 = .ok (.ior, 1) := by decide +kernel
theorem dX6_carry_59 : decode cX6_carry 59 = .ok (.iastore, 1) := by decide +kernel
theorem dX6_carry_60 : decode cX6_carry 60 = .ok (.iload_n 3, 1) := by decide +kernel
theorem dX6_carry_61 : decode cX6_carry 61 = .ok (.ireturn, 1) := by decide +kernel
theorem dX6_changes_0 : decode cX6_changes 0 = .ok (.aload_n 0, 1) := by decide +kernel
theorem dX6_changes_1 : decode cX6_changes 1 = .ok (.iconst 0, 1) := by decide +kernel
theorem dX6_changes_2 : decode cX6_changes 2 = .ok (.putfield 80, 3) := by decide +kernel
theorem dX6_changes_5 : decode cX6_changes 5 = .ok (.aload_n 0, 1) := by decide +kernel
theorem dX6_changes_6 : decode cX6_changes 6 = .ok (.getfield 88, 3) := by decide +kernel
theorem dX6_changes_9 : decode cX6_changes 9 = .ok (.ireturn, 1) := by decide +kernel
set_option maxRecDepth 20000 in
theorem ggX6_timeOf_X6_isChange : GoodIn wsX6_timeOf wsX6_isChange := goodIn_r _ [7, 8, 9, 10, 6, 11, 12, 13, 14, 15, 16, 17, 18, 19, 20, 21, 22, 23, 24, 25, 26, 27, 28, 29, 30, 31, 32, 33, 34, 35, 36, 37] (by decide +kernel) (by decide +kernel)
set_option maxRecDepth 20000 in
theorem gX6_timeOf_X6_isChange : GoodIn wsX6_timeOf (wsV RX6 137 RX6 yX6_isChange wsX6_isChange) := goodIn_app (goodIn_of _ (by decide +kernel)) ggX6_timeOf_X6_isChange
theorem dX6_timeOf_0 : decode cX6_timeOf 0 = .ok (.aload_n 0, 1) := by decide +kernel
theorem dX6_timeOf_1 : decode cX6_timeOf 1 = .ok (.aload_n 0, 1) := by decide +kernel
theorem dX6_timeOf_2 : decode cX6_timeOf 2 = .ok (.iload_n 1, 1) := by decide +kernel
theorem dX6_timeOf_3 : decode cX6_timeOf 3 = .ok (.invokevirtual 137, 3) := by decide +kernel
theorem dX6_timeOf_6 : decode cX6_timeOf 6 = .ok (.ifCond .eq 7, 3) := by decide +kernel
theorem dX6_timeOf_9 : decode cX6_timeOf 9 = .ok (.iconst 0, 1) := by decide +kernel
theorem dX6_timeOf_10 : decode cX6_timeOf 10 = .ok (.goto 4, 3) := by decide +kernel
theorem dX6_timeOf_13 : decode cX6_timeOf 13 = .ok (.iconst 1, 1) := by decide +kernel
theorem dX6_timeOf_14 : decode cX6_timeOf 14 = .ok (.putfield 80, 3) := by decide +kernel
theorem dX6_timeOf_17 : decode cX6_timeOf 17 = .ok (.aload_n 0, 1) := by decide +kernel
theorem dX6_timeOf_18 : decode cX6_timeOf 18 = .ok (.getfield 80, 3) := by decide +kernel
theorem dX6_timeOf_21 : decode cX6_timeOf 21 = .ok (.ifCond .le 7, 3) := by decide +kernel
theorem dX6_timeOf_24 : decode cX6_timeOf 24 = .ok (.iconst 0, 1) := by decide +kernel
theorem dX6_timeOf_25 : decode cX6_timeOf 25 = .ok (.goto 9, 3) := by decide +kernel
theorem dX6_timeOf_28 : decode cX6_timeOf 28 = .ok (.aload_n 0, 1) := by decide +kernel
theorem dX6_timeOf_29 : decode cX6_timeOf 29 = .ok (.getfield 34, 3) := by decide +kernel
theorem dX6_timeOf_32 : decode cX6_timeOf 32 = .ok (.iload_n 1, 1) := by decide +kernel
theorem dX6_timeOf_33 : decode cX6_timeOf 33 = .ok (.iaload, 1) := by decide +kernel
theorem dX6_timeOf_34 : decode cX6_timeOf 34 = .ok (.ireturn, 1) := by decide +kernel
set_option maxRecDepth 20000 in
theorem ggX6_entries_X6_isHere : GoodIn wsX6_entries wsX6_isHere := goodIn_r _ [6, 7, 8, 9, 5, 10, 11, 12, 13, 14, 15, 16, 17, 18, 19, 20, 21, 22, 23, 24, 25, 26, 27, 28, 29, 30, 31, 32, 33, 34, 35, 36, 37, 38, 39, 40, 41, 42, 43, 44, 45, 46, 47, 48, 49, 50, 51, 52, 53, 54, 55, 56, 57, 58, 59, 60, 61, 62, 63, 68, 69, 70, 71, 72, 73, 74, 75, 76, 77, 78, 79, 80, 81, 82, 83, 84, 85, 86, 87, 88, 89, 90, 91, 92, 93] (by decide +kernel) (by decide +kernel)
set_option maxRecDepth 20000 in
theorem gX6_entries_X6_isHere : GoodIn wsX6_entries (wsV RX6 127 RX6 yX6_isHere wsX6_isHere) := goodIn_app (goodIn_of _ (by decide +kernel)) ggX6_entries_X6_isHere
set_option maxRecDepth 20000 in
theorem ggX6_entries_X6_count : GoodIn wsX6_entries wsX6_count := goodIn_r _ [67, 7, 18, 68, 69, 70, 71, 72, 73, 74, 75, 76, 77, 78, 79, 80, 81, 82, 83, 84, 85, 86, 87, 88, 89, 90, 91, 92, 93] (by decide +kernel) (by decide +kernel)
set_option maxRecDepth 20000 in
theorem gX6_entries_X6_count : GoodIn wsX6_entries (wsV RX6 133 RX6 yX6_count wsX6_count) := goodIn_app (goodIn_of _ (by decide +kernel)) ggX6_entries_X6_count
theorem dX6_entries_0 : decode cX6_entries 0 = .ok (.aload_n 0, 1) := by decide +kernel
theorem dX6_entries_1 : decode cX6_entries 1 = .ok (.aload_n 0, 1) := by decide +kernel
theorem dX6_entries_2 : decode cX6_entries 2 = .ok (.iload_n 1, 1) := by decide +kernel
theorem dX6_entries_3 : decode cX6_entries 3 = .ok (.iconst 0, 1) := by decide +kernel
theorem dX6_entries_4 : decode cX6_entries 4 = .ok (.invokevirtual 127, 3) := by decide +kernel
theorem dX6_entries_7 : decode cX6_entries 7 = .ok (.ifCond .eq 7, 3) := by decide +kernel
theorem dX6_entries_10 : decode cX6_entries 10 = .ok (.iconst 0, 1) := by decide +kernel
theorem dX6_entries_11 : decode cX6_entries 11 = .ok (.goto 4, 3) := by decide +kernel
theorem dX6_entries_14 : decode cX6_entries 14 = .ok (.iconst 1, 1) := by decide +kernel
theorem dX6_entries_15 : decode cX6_entries 15 = .ok (.putfield 80, 3) := by decide +kernel
theorem dX6_entries_18 : decode cX6_entries 18 = .ok (.aload_n 0, 1) := by decide +kernel
theorem dX6_entries_19 : decode cX6_entries 19 = .ok (.getfield 80, 3) := by decide +kernel
theorem dX6_entries_22 : decode cX6_entries 22 = .ok (.ifCond .le 7, 3) := by decide +kernel
theorem dX6_entries_25 : decode cX6_entries 25 = .ok (.iconst 0, 1) := by decide +kernel
theorem dX6_entries_26 : decode cX6_entries 26 = .ok (.goto 8, 3) := by decide +kernel
theorem dX6_entries_29 : decode cX6_entries 29 = .ok (.aload_n 0, 1) := by decide +kernel
theorem dX6_entries_30 : decode cX6_entries 30 = .ok (.iconst (-1), 1) := by decide +kernel
theorem dX6_entries_31 : decode cX6_entries 31 = .ok (.invokevirtual 133, 3) := by decide +kernel
theorem dX6_entries_34 : decode cX6_entries 34 = .ok (.ireturn, 1) := by decide +kernel
set_option maxRecDepth 20000 in
theorem ggX6_isThere_X6_isMaster : GoodIn wsX6_isThere wsX6_isMaster := goodIn_r _ [5, 6, 7, 4, 8] (by decide +kernel) (by decide +kernel)
set_option maxRecDepth 20000 in
theorem gX6_isThere_X6_isMaster : GoodIn wsX6_isThere (va_wsS RX6 120 yX6_isMaster wsX6_isMaster) := goodIn_app (goodIn_of _ (by decide +kernel)) ggX6_isThere_X6_isMaster
set_option maxRecDepth 20000 in
theorem ggX6_isThere_X6_isHere : GoodIn wsX6_isThere wsX6_isHere := goodIn_r _ [12, 13, 2, 3, 4, 5, 6, 7, 8, 14, 15, 16, 17, 18, 19, 20, 21, 22, 23, 24, 25, 26, 27, 28, 29, 30, 31, 32, 33, 34, 35, 36, 37, 38, 39, 40, 41, 42, 43, 44, 45, 46, 47, 48, 49, 50, 51, 52, 53, 54, 55, 56, 57, 58, 59, 60, 61, 62, 63, 64, 65, 66, 67, 68, 69, 70, 71, 72, 73, 74, 75, 76, 77, 78, 79, 80, 81, 82, 83, 84, 85, 86, 87, 88, 89] (by decide +kernel) (by decide +kernel)
set_option maxRecDepth 20000 in
theorem gX6_isThere_X6_isHere : GoodIn wsX6_isThere (wsV RX6 127 RX6 yX6_isHere wsX6_isHere) := goodIn_app (goodIn_of _ (by decide +kernel)) ggX6_isThere_X6_isHere
theorem dX6_isThere_0 : decode cX6_isThere 0 = .ok (.aload_n 0, 1) := by decide +kernel
theorem dX6_isThere_1 : decode cX6_isThere 1 = .ok (.iload_n 1, 1) := by decide +kernel
theorem dX6_isThere_2 : decode cX6_isThere 2 = .ok (.invokestatic 120, 3) := by decide +kernel
theorem dX6_isThere_5 : decode cX6_isThere 5 = .ok (.ifCond .eq 7, 3) := by decide +kernel
theorem dX6_isThere_8 : decode cX6_isThere 8 = .ok (.iconst 0, 1) := by decide +kernel
theorem dX6_isThere_9 : decode cX6_isThere 9 = .ok (.goto 4, 3) := by decide +kernel
theorem dX6_isThere_12 : decode cX6_isThere 12 = .ok (.iconst 1, 1) := by decide +kernel
theorem dX6_isThere_13 : decode cX6_isThere 13 = .ok (.putfield 80, 3) := by decide +kernel
theorem dX6_isThere_16 : decode cX6_isThere 16 = .ok (.aload_n 0, 1) := by decide +kernel
theorem dX6_isThere_17 : decode cX6_isThere 17 = .ok (.iload_n 1, 1) := by decide +kernel
theorem dX6_isThere_18 : decode cX6_isThere 18 = .ok (.iload_n 2, 1) := by decide +kernel
theorem dX6_isThere_19 : decode cX6_isThere 19 = .ok (.invokevirtual 127, 3) := by decide +kernel
theorem dX6_isThere_22 : decode cX6_isThere 22 = .ok (.ireturn, 1) := by decide +kernel
set_option maxRecDepth 20000 in
theorem ggX6_asks_X6_isHere : GoodIn wsX6_asks wsX6_isHere := goodIn_r _ [6, 7, 8, 9, 5, 10, 11, 12, 13, 14, 15, 16, 17, 18, 19, 20, 21, 22, 23, 24, 25, 26, 27, 28, 29, 30, 31, 32, 33, 34, 35, 36, 37, 38, 39, 40, 41, 42, 43, 44, 45, 46, 47, 48, 49, 50, 51, 52, 53, 54, 55, 56, 57, 58, 59, 60, 61, 62, 63, 64, 65, 66, 67, 68, 69, 70, 71, 72, 73, 74, 75, 76, 77, 78, 79, 80, 81, 82, 83, 84, 85, 86, 87, 88, 89] (by decide +kernel) (by decide +kernel)
set_option maxRecDepth 20000 in
theorem gX6_asks_X6_isHere : GoodIn wsX6_asks (wsV RX6 127 RX6 yX6_isHere wsX6_isHere) := goodIn_app (goodIn_of _ (by decide +kernel)) ggX6_asks_X6_isHere
theorem dX6_asks_0 : decode cX6_asks 0 = .ok (.aload_n 0, 1) := by decide +kernel
theorem dX6_asks_1 : decode cX6_asks 1 = .ok (.aload_n 0, 1) := by decide +kernel
theorem dX6_asks_2 : decode cX6_asks 2 = .ok (.iload_n 1, 1) := by decide +kernel
theorem dX6_asks_3 : decode cX6_asks 3 = .ok (.iload_n 2, 1) := by decide +kernel
theorem dX6_asks_4 : decode cX6_asks 4 = .ok (.invokevirtual 127, 3) := by decide +kernel
theorem dX6_asks_7 : decode cX6_asks 7 = .ok (.ifCond .eq 7, 3) := by decide +kernel
theorem dX6_asks_10 : decode cX6_asks 10 = .ok (.iconst 0, 1) := by decide +kernel
theorem dX6_asks_11 : decode cX6_asks 11 = .ok (.goto 4, 3) := by decide +kernel
theorem dX6_asks_14 : decode cX6_asks 14 = .ok (.iconst 1, 1) := by decide +kernel
theorem dX6_asks_15 : decode cX6_asks 15 = .ok (.putfield 80, 3) := by decide +kernel
theorem dX6_asks_18 : decode cX6_asks 18 = .ok (.aload_n 0, 1) := by decide +kernel
theorem dX6_asks_19 : decode cX6_asks 19 = .ok (.getfield 80, 3) := by decide +kernel
theorem dX6_asks_22 : decode cX6_asks 22 = .ok (.ifCond .ne 7, 3) := by decide +kernel
theorem dX6_asks_25 : decode cX6_asks 25 = .ok (.iconst 1, 1) := by decide +kernel
theorem dX6_asks_26 : decode cX6_asks 26 = .ok (.goto 4, 3) := by decide +kernel
theorem dX6_asks_29 : decode cX6_asks 29 = .ok (.iconst 0, 1) := by decide +kernel
theorem dX6_asks_30 : decode cX6_asks 30 = .ok (.ireturn, 1) := by decide +kernel
set_option maxRecDepth 20000 in
theorem ggX6_parentOf_X6_asks : GoodIn wsX6_parentOf wsX6_asks := goodIn_r _ [6, 7, 8, 9, 10, 5, 11, 12, 13, 14, 15, 16, 17, 18, 19, 20, 21, 22, 1, 23, 24, 25, 26, 27, 28, 29, 30, 31, 32, 33, 34, 35, 36, 37, 38, 39, 40, 41, 42, 43, 44, 45, 46, 47, 48, 49, 50, 51, 52, 53, 54, 55, 56, 57, 58, 59, 60, 61, 62, 63, 64, 65, 66, 67, 68, 69, 70, 71, 72, 73, 74, 75, 76, 77, 78, 79, 80, 81, 82, 83, 84, 85, 86, 87, 88, 89, 90, 91, 92, 93] (by decide +kernel) (by decide +kernel)
set_option maxRecDepth 20000 in
theorem gX6_parentOf_X6_asks : GoodIn wsX6_parentOf (wsV RX6 140 RX6 yX6_asks wsX6_asks) := goodIn_app (goodIn_of _ (by decide +kernel)) ggX6_parentOf_X6_asks
theorem dX6_parentOf_0 : decode cX6_parentOf 0 = .ok (.aload_n 0, 1) := by decide +kernel
theorem dX6_parentOf_1 : decode cX6_parentOf 1 = .ok (.iload_n 1, 1) := by decide +kernel
theorem dX6_parentOf_2 : decode cX6_parentOf 2 = .ok (.iload_n 2, 1) := by decide +kernel
theorem dX6_parentOf_3 : decode cX6_parentOf 3 = .ok (.invokevirtual 140, 3) := by decide +kernel
theorem dX6_parentOf_6 : decode cX6_parentOf 6 = .ok (.ifCond .eq 12, 3) := by decide +kernel
theorem dX6_parentOf_9 : decode cX6_parentOf 9 = .ok (.aload_n 0, 1) := by decide +kernel
theorem dX6_parentOf_10 : decode cX6_parentOf 10 = .ok (.getfield 65, 3) := by decide +kernel
theorem dX6_parentOf_13 : decode cX6_parentOf 13 = .ok (.iload_n 2, 1) := by decide +kernel
theorem dX6_parentOf_14 : decode cX6_parentOf 14 = .ok (.iaload, 1) := by decide +kernel
theorem dX6_parentOf_15 : decode cX6_parentOf 15 = .ok (.goto 4, 3) := by decide +kernel
theorem dX6_parentOf_18 : decode cX6_parentOf 18 = .ok (.iconst 0, 1) := by decide +kernel
theorem dX6_parentOf_19 : decode cX6_parentOf 19 = .ok (.ireturn, 1) := by decide +kernel
set_option maxRecDepth 20000 in
theorem ggX6_labelOf_X6_asks : GoodIn wsX6_labelOf wsX6_asks := goodIn_r _ [6, 7, 8, 9, 10, 5, 11, 12, 13, 14, 15, 16, 17, 18, 19, 20, 21, 22, 23, 1, 24, 25, 26, 27, 28, 29, 30, 31, 32, 33, 34, 35, 36, 37, 38, 39, 40, 41, 42, 43, 44, 45, 46, 47, 48, 49, 50, 51, 52, 53, 54, 55, 56, 57, 58, 59, 60, 61, 62, 63, 64, 65, 66, 67, 68, 69, 70, 71, 72, 73, 74, 75, 76, 77, 78, 79, 80, 81, 82, 83, 84, 85, 86, 87, 88, 89, 90, 91, 92, 93] (by decide +kernel) (by decide +kernel)
set_option maxRecDepth 20000 in
theorem gX6_labelOf_X6_asks : GoodIn wsX6_labelOf (wsV RX6 140 RX6 yX6_asks wsX6_asks) := goodIn_app (goodIn_of _ (by decide +kernel)) ggX6_labelOf_X6_asks
theorem dX6_labelOf_0 : decode cX6_labelOf 0 = .ok (.aload_n 0, 1) := by decide +kernel
theorem dX6_labelOf_1 : decode cX6_labelOf 1 = .ok (.iload_n 1, 1) := by decide +kernel
theorem dX6_labelOf_2 : decode cX6_labelOf 2 = .ok (.iload_n 2, 1) := by decide +kernel
theorem dX6_labelOf_3 : decode cX6_labelOf 3 = .ok (.invokevirtual 140, 3) := by decide +kernel
theorem dX6_labelOf_6 : decode cX6_labelOf 6 = .ok (.ifCond .eq 12, 3) := by decide +kernel
theorem dX6_labelOf_9 : decode cX6_labelOf 9 = .ok (.aload_n 0, 1) := by decide +kernel
theorem dX6_labelOf_10 : decode cX6_labelOf 10 = .ok (.getfield 68, 3) := by decide +kernel
theorem dX6_labelOf_13 : decode cX6_labelOf 13 = .ok (.iload_n 2, 1) := by decide +kernel
theorem dX6_labelOf_14 : decode cX6_labelOf 14 = .ok (.iaload, 1) := by decide +kernel
theorem dX6_labelOf_15 : decode cX6_labelOf 15 = .ok (.goto 4, 3) := by decide +kernel
theorem dX6_labelOf_18 : decode cX6_labelOf 18 = .ok (.iconst 0, 1) := by decide +kernel
theorem dX6_labelOf_19 : decode cX6_labelOf 19 = .ok (.ireturn, 1) := by decide +kernel
set_option maxRecDepth 20000 in
theorem ggX6_value_X6_isHere : GoodIn wsX6_value wsX6_isHere := goodIn_r _ [7, 8, 9, 10, 6, 11, 12, 13, 14, 15, 16, 17, 18, 19, 20, 21, 2, 22, 23, 24, 25, 26, 27, 28, 29, 30, 31, 32, 33, 34, 35, 36, 37, 38, 39, 40, 41, 42, 43, 44, 45, 46, 47, 48, 49, 50, 51, 52, 53, 54, 55, 56, 57, 58, 59, 60, 61, 62, 63, 64, 65, 66, 67, 68, 69, 70, 71, 72, 73, 74, 75, 76, 77, 78, 79, 80, 81, 82, 83, 84, 85, 86, 87, 88, 89] (by decide +kernel) (by decide +kernel)
set_option maxRecDepth 20000 in
theorem gX6_value_X6_isHere : GoodIn wsX6_value (wsV RX6 127 RX6 yX6_isHere wsX6_isHere) := goodIn_app (goodIn_of _ (by decide +kernel)) ggX6_value_X6_isHere
set_option maxRecDepth 20000 in
theorem ggX6_value_X6_isIn : GoodIn wsX6_value wsX6_isIn := goodIn_r _ [14] (by decide +kernel) (by decide +kernel)
set_option maxRecDepth 20000 in
theorem gX6_value_X6_isIn : GoodIn wsX6_value (va_wsS RX6 84 yX6_isIn wsX6_isIn) := goodIn_app (goodIn_of _ (by decide +kernel)) ggX6_value_X6_isIn
theorem dX6_value_0 : decode cX6_value 0 = .ok (.aload_n 0, 1) := by decide +kernel
theorem dX6_value_1 : decode cX6_value 1 = .ok (.aload_n 0, 1) := by decide +kernel
theorem dX6_value_2 : decode cX6_value 2 = .ok (.iload_n 1, 1) := by decide +kernel
theorem dX6_value_3 : decode cX6_value 3 = .ok (.iload_n 2, 1) := by decide +kernel
theorem dX6_value_4 : decode cX6_value 4 = .ok (.invokevirtual 127, 3) := by decide +kernel
theorem dX6_value_7 : decode cX6_value 7 = .ok (.ifCond .eq 16, 3) := by decide +kernel
theorem dX6_value_10 : decode cX6_value 10 = .ok (.iload_n 3, 1) := by decide +kernel
theorem dX6_value_11 : decode cX6_value 11 = .ok (.iconst 0, 1) := by decide +kernel
theorem dX6_value_12 : decode cX6_value 12 = .ok (.iconst 3, 1) := by decide +kernel
theorem dX6_value_13 : decode cX6_value 13 = .ok (.invokestatic 84, 3) := by decide +kernel
theorem dX6_value_16 : decode cX6_value 16 = .ok (.ifCond .eq 7, 3) := by decide +kernel
theorem dX6_value_19 : decode cX6_value 19 = .ok (.iconst 0, 1) := by decide +kernel
theorem dX6_value_20 : decode cX6_value 20 = .ok (.goto 4, 3) := by decide +kernel
theorem dX6_value_23 : decode cX6_value 23 = .ok (.iconst 1, 1) := by decide +kernel
theorem dX6_value_24 : decode cX6_value 24 = .ok (.putfield 80, 3) := by decide +kernel
theorem dX6_value_27 : decode cX6_value 27 = .ok (.aload_n 0, 1) := by decide +kernel
theorem dX6_value_28 : decode cX6_value 28 = .ok (.getfield 80, 3) := by decide +kernel
theorem dX6_value_31 : decode cX6_value 31 = .ok (.ifCond .le 7, 3) := by decide +kernel
theorem dX6_value_34 : decode cX6_value 34 = .ok (.iconst 0, 1) := by decide +kernel
theorem dX6_value_35 : decode cX6_value 35 = .ok (.goto 13, 3) := by decide +kernel
theorem dX6_value_38 : decode cX6_value 38 = .ok (.aload_n 0, 1) := by decide +kernel
theorem dX6_value_39 : decode cX6_value 39 = .ok (.getfield 74, 3) := by decide +kernel
theorem dX6_value_42 : decode cX6_value 42 = .ok (.iconst 4, 1) := by decide +kernel
theorem dX6_value_43 : decode cX6_value 43 = .ok (.iload_n 2, 1) := by decide +kernel
theorem dX6_value_44 : decode cX6_value 44 = .ok (.imul, 1) := by decide +kernel
theorem dX6_value_45 : decode cX6_value 45 = .ok (.iload_n 3, 1) := by decide +kernel
theorem dX6_value_46 : decode cX6_value 46 = .ok (.iadd, 1) := by decide +kernel
theorem dX6_value_47 : decode cX6_value 47 = .ok (.iaload, 1) := by decide +kernel
theorem dX6_value_48 : decode cX6_value 48 = .ok (.ireturn, 1) := by decide +kernel
set_option maxRecDepth 20000 in
theorem ggX6_isWhole_X6_asks : GoodIn wsX6_isWhole wsX6_asks := goodIn_r _ [8, 9, 10, 11, 12, 7, 13, 14, 15, 16, 17, 18, 19, 20, 21, 22, 23, 24, 25, 26, 2, 3, 27, 28, 29, 30, 31, 32, 33, 34, 35, 36, 37, 38, 39, 40, 41, 42, 43, 44, 45, 46, 47, 48, 49, 50, 51, 52, 53, 54, 55, 56, 57, 58, 59, 60, 61, 62, 63, 64, 65, 66, 67, 68, 69, 70, 71, 72, 73, 74, 75, 76, 77, 78, 79, 80, 81, 82, 83, 84, 85, 86, 87, 88, 89, 90, 91, 92, 93, 94] (by decide +kernel) (by decide +kernel)
set_option maxRecDepth 20000 in
theorem gX6_isWhole_X6_asks : GoodIn wsX6_isWhole (wsV RX6 140 RX6 yX6_asks wsX6_asks) := goodIn_app (goodIn_of _ (by decide +kernel)) ggX6_isWhole_X6_asks
theorem dX6_isWhole_0 : decode cX6_isWhole 0 = .ok (.aload_n 0, 1) := by decide +kernel
theorem dX6_isWhole_1 : decode cX6_isWhole 1 = .ok (.iload_n 1, 1) := by decide +kernel
theorem dX6_isWhole_2 : decode cX6_isWhole 2 = .ok (.iload_n 2, 1) := by decide +kernel
theorem dX6_isWhole_3 : decode cX6_isWhole 3 = .ok (.invokevirtual 140, 3) := by decide +kernel
theorem dX6_isWhole_6 : decode cX6_isWhole 6 = .ok (.istore_n 3, 1) := by decide +kernel
theorem dX6_isWhole_7 : decode cX6_isWhole 7 = .ok (.iconst 0, 1) := by decide +kernel
theorem dX6_isWhole_8 : decode cX6_isWhole 8 = .ok (.istore 4, 2) := by decide +kernel
theorem dX6_isWhole_10 : decode cX6_isWhole 10 = .ok (.iload 4, 2) := by decide +kernel
theorem dX6_isWhole_12 : decode cX6_isWhole 12 = .ok (.iconst 4, 1) := by decide +kernel
theorem dX6_isWhole_13 : decode cX6_isWhole 13 = .ok (.if_icmp .ge 52, 3) := by decide +kernel
theorem dX6_isWhole_16 : decode cX6_isWhole 16 = .ok (.iload_n 3, 1) := by decide +kernel
theorem dX6_isWhole_17 : decode cX6_isWhole 17 = .ok (.ifCond .eq 40, 3) := by decide +kernel
theorem dX6_isWhole_20 : decode cX6_isWhole 20 = .ok (.aload_n 0, 1) := by decide +kernel
theorem dX6_isWhole_21 : decode cX6_isWhole 21 = .ok (.getfield 7, 3) := by decide +kernel
theorem dX6_isWhole_24 : decode cX6_isWhole 24 = .ok (.aload_n 0, 1) := by decide +kernel
theorem dX6_isWhole_25 : decode cX6_isWhole 25 = .ok (.getfield 71, 3) := by decide +kernel
theorem dX6_isWhole_28 : decode cX6_isWhole 28 = .ok (.iload_n 2, 1) := by decide +kernel
theorem dX6_isWhole_29 : decode cX6_isWhole 29 = .ok (.iaload, 1) := by decide +kernel
theorem dX6_isWhole_30 : decode cX6_isWhole 30 = .ok (.iaload, 1) := by decide +kernel
theorem dX6_isWhole_31 : decode cX6_isWhole 31 = .ok (.iload 4, 2) := by decide +kernel
theorem dX6_isWhole_33 : decode cX6_isWhole 33 = .ok (.ishr, 1) := by decide +kernel
theorem dX6_isWhole_34 : decode cX6_isWhole 34 = .ok (.iconst 1, 1) := by decide +kernel
theorem dX6_isWhole_35 : decode cX6_isWhole 35 = .ok (.iand, 1) := by decide +kernel
theorem dX6_isWhole_36 : decode cX6_isWhole 36 = .ok (.ifCond .eq 17, 3) := by decide +kernel
theorem dX6_isWhole_39 : decode cX6_isWhole 39 = .ok (.aload_n 0, 1) := by decide +kernel
theorem dX6_isWhole_40 : decode cX6_isWhole 40 = .ok (.getfield 74, 3) := by decide +kernel
theorem dX6_isWhole_43 : decode cX6_isWhole 43 = .ok (.iconst 4, 1) := by decide +kernel
theorem dX6_isWhole_44 : decode cX6_isWhole 44 = .ok (.iload_n 2, 1) := by decide +kernel
theorem dX6_isWhole_45 : decode cX6_isWhole 45 = .ok (.imul, 1) := by decide +kernel
theorem dX6_isWhole_46 : decode cX6_isWhole 46 = .ok (.iload 4, 2) := by decide +kernel
theorem dX6_isWhole_48 : decode cX6_isWhole 48 = .ok (.iadd, 1) := by decide +kernel
theorem dX6_isWhole_49 : decode cX6_isWhole 49 = .ok (.iaload, 1) := by decide +kernel
theorem dX6_isWhole_50 : decode cX6_isWhole 50 = .ok (.ifCond .lt 7, 3) := by decide +kernel
theorem dX6_isWhole_53 : decode cX6_isWhole 53 = .ok (.iconst 1, 1) := by decide +kernel
theorem dX6_isWhole_54 : decode cX6_isWhole 54 = .ok (.goto 4, 3) := by decide +kernel
theorem dX6_isWhole_57 : decode cX6_isWhole 57 = .ok (.iconst 0, 1) := by decide +kernel
theorem dX6_isWhole_58 : decode cX6_isWhole 58 = .ok (.istore_n 3, 1) := by decide +kernel
theorem dX6_isWhole_59 : decode cX6_isWhole 59 = .ok (.iinc 4 1, 3) := by decide +kernel
theorem dX6_isWhole_62 : decode cX6_isWhole 62 = .ok (.goto (-52), 3) := by decide +kernel
theorem dX6_isWhole_65 : decode cX6_isWhole 65 = .ok (.iload_n 3, 1) := by decide +kernel
theorem dX6_isWhole_66 : decode cX6_isWhole 66 = .ok (.ireturn, 1) := by decide +kernel
set_option maxRecDepth 20000 in
theorem ggX6_find_X6_isHere : GoodIn wsX6_find wsX6_isHere := goodIn_r _ [6, 7, 8, 9, 5, 10, 11, 12, 13, 14, 15, 16, 17, 18, 19, 20, 21, 22, 23, 24, 25, 26, 27, 28, 29, 30, 31, 32, 33, 34, 35, 36, 37, 38, 39, 40, 41, 42, 43, 44, 45, 46, 47, 48, 49, 50, 51, 52, 53, 54, 55, 56, 57, 58, 59, 60, 61, 62, 63, 64, 65, 66, 67, 68, 69, 70, 71, 72, 73, 74, 75, 76, 77, 78, 79, 80, 81, 82, 83, 84, 85, 86, 87, 88, 89] (by decide +kernel) (by decide +kernel)
set_option maxRecDepth 20000 in
theorem gX6_find_X6_isHere : GoodIn wsX6_find (wsV RX6 127 RX6 yX6_isHere wsX6_isHere) := goodIn_app (goodIn_of _ (by decide +kernel)) ggX6_find_X6_isHere
set_option maxRecDepth 20000 in
theorem ggX6_find_X6_isIn : GoodIn wsX6_find wsX6_isIn := goodIn_r _ [13] (by decide +kernel) (by decide +kernel)
set_option maxRecDepth 20000 in
theorem gX6_find_X6_isIn : GoodIn wsX6_find (va_wsS RX6 84 yX6_isIn wsX6_isIn) := goodIn_app (goodIn_of _ (by decide +kernel)) ggX6_find_X6_isIn
set_option maxRecDepth 20000 in
theorem ggX6_find_X6_finds : GoodIn wsX6_find wsX6_finds := goodIn_r _ [51, 7, 18, 19, 52, 53, 5, 54, 64, 65, 66, 67, 68, 69, 70, 71, 72, 73, 74, 75, 76, 77, 78, 79, 80, 81, 82, 83, 84, 85, 86, 87, 88, 89] (by decide +kernel) (by decide +kernel)
set_option maxRecDepth 20000 in
theorem gX6_find_X6_finds : GoodIn wsX6_find (wsV RX6 95 RX6 yX6_finds wsX6_finds) := goodIn_app (goodIn_of _ (by decide +kernel)) ggX6_find_X6_finds
theorem dX6_find_0 : decode cX6_find 0 = .ok (.aload_n 0, 1) := by decide +kernel
theorem dX6_find_1 : decode cX6_find 1 = .ok (.aload_n 0, 1) := by decide +kernel
theorem dX6_find_2 : decode cX6_find 2 = .ok (.iload_n 1, 1) := by decide +kernel
theorem dX6_find_3 : decode cX6_find 3 = .ok (.iload_n 2, 1) := by decide +kernel
theorem dX6_find_4 : decode cX6_find 4 = .ok (.invokevirtual 127, 3) := by decide +kernel
theorem dX6_find_7 : decode cX6_find 7 = .ok (.ifCond .ne 7, 3) := by decide +kernel
theorem dX6_find_10 : decode cX6_find 10 = .ok (.iconst 1, 1) := by decide +kernel
theorem dX6_find_11 : decode cX6_find 11 = .ok (.goto 18, 3) := by decide +kernel
theorem dX6_find_14 : decode cX6_find 14 = .ok (.iload_n 3, 1) := by decide +kernel
theorem dX6_find_15 : decode cX6_find 15 = .ok (.iconst 0, 1) := by decide +kernel
theorem dX6_find_16 : decode cX6_find 16 = .ok (.bipush 99, 2) := by decide +kernel
theorem dX6_find_18 : decode cX6_find 18 = .ok (.invokestatic 84, 3) := by decide +kernel
theorem dX6_find_21 : decode cX6_find 21 = .ok (.ifCond .eq 7, 3) := by decide +kernel
theorem dX6_find_24 : decode cX6_find 24 = .ok (.iconst 0, 1) := by decide +kernel
theorem dX6_find_25 : decode cX6_find 25 = .ok (.goto 4, 3) := by decide +kernel
theorem dX6_find_28 : decode cX6_find 28 = .ok (.iconst 2, 1) := by decide +kernel
theorem dX6_find_29 : decode cX6_find 29 = .ok (.putfield 80, 3) := by decide +kernel
theorem dX6_find_32 : decode cX6_find 32 = .ok (.aload_n 0, 1) := by decide +kernel
theorem dX6_find_33 : decode cX6_find 33 = .ok (.getfield 80, 3) := by decide +kernel
theorem dX6_find_36 : decode cX6_find 36 = .ok (.ifCond .le 7, 3) := by decide +kernel
theorem dX6_find_39 : decode cX6_find 39 = .ok (.iconst 0, 1) := by decide +kernel
theorem dX6_find_40 : decode cX6_find 40 = .ok (.goto 10, 3) := by decide +kernel
theorem dX6_find_43 : decode cX6_find 43 = .ok (.aload_n 0, 1) := by decide +kernel
theorem dX6_find_44 : decode cX6_find 44 = .ok (.iload_n 2, 1) := by decide +kernel
theorem dX6_find_45 : decode cX6_find 45 = .ok (.iload_n 3, 1) := by decide +kernel
theorem dX6_find_46 : decode cX6_find 46 = .ok (.iconst (-1), 1) := by decide +kernel
theorem dX6_find_47 : decode cX6_find 47 = .ok (.invokevirtual 95, 3) := by decide +kernel
theorem dX6_find_50 : decode cX6_find 50 = .ok (.ireturn, 1) := by decide +kernel
theorem dX6_told_0 : decode cX6_told 0 = .ok (.aload_n 0, 1) := by decide +kernel
theorem dX6_told_1 : decode cX6_told 1 = .ok (.getfield 62, 3) := by decide +kernel
theorem dX6_told_4 : decode cX6_told 4 = .ok (.iload_n 1, 1) := by decide +kernel
theorem dX6_told_5 : decode cX6_told 5 = .ok (.baload, 1) := by decide +kernel
theorem dX6_told_6 : decode cX6_told 6 = .ok (.ifCond .ne 8, 3) := by decide +kernel
theorem dX6_told_9 : decode cX6_told 9 = .ok (.bipush (-9), 2) := by decide +kernel
theorem dX6_told_11 : decode cX6_told 11 = .ok (.goto 56, 3) := by decide +kernel
theorem dX6_told_14 : decode cX6_told 14 = .ok (.iload_n 2, 1) := by decide +kernel
theorem dX6_told_15 : decode cX6_told 15 = .ok (.ifCond .ne 12, 3) := by decide +kernel
theorem dX6_told_18 : decode cX6_told 18 = .ok (.aload_n 0, 1) := by decide +kernel
theorem dX6_told_19 : decode cX6_told 19 = .ok (.getfield 65, 3) := by decide +kernel
theorem dX6_told_22 : decode cX6_told 22 = .ok (.iload_n 1, 1) := by decide +kernel
theorem dX6_told_23 : decode cX6_told 23 = .ok (.iaload, 1) := by decide +kernel
theorem dX6_told_24 : decode cX6_told 24 = .ok (.goto 43, 3) := by decide +kernel
theorem dX6_told_27 : decode cX6_told 27 = .ok (.iload_n 2, 1) := by decide +kernel
theorem dX6_told_28 : decode cX6_told 28 = .ok (.iconst 1, 1) := by decide +kernel
theorem dX6_told_29 : decode cX6_told 29 = .ok (.if_icmp .ne 12, 3) := by decide +kernel
theorem dX6_told_32 : decode cX6_told 32 = .ok (.aload_n 0, 1) := by decide +kernel
theorem dX6_told_33 : decode cX6_told 33 = .ok (.getfield 68, 3) := by decide +kernel
theorem dX6_told_36 : decode cX6_told 36 = .ok (.iload_n 1, 1) := by decide +kernel
theorem dX6_told_37 : decode cX6_told 37 = .ok (.iaload, 1) := by decide +kernel
theorem dX6_told_38 : decode cX6_told 38 = .ok (.goto 29, 3) := by decide +kernel
theorem dX6_told_41 : decode cX6_told 41 = .ok (.iload_n 2, 1) := by decide +kernel
theorem dX6_told_42 : decode cX6_told 42 = .ok (.iconst 2, 1) := by decide +kernel
theorem dX6_told_43 : decode cX6_told 43 = .ok (.if_icmp .ne 12, 3) := by decide +kernel
theorem dX6_told_46 : decode cX6_told 46 = .ok (.aload_n 0, 1) := by decide +kernel
theorem dX6_told_47 : decode cX6_told 47 = .ok (.getfield 71, 3) := by decide +kernel
theorem dX6_told_50 : decode cX6_told 50 = .ok (.iload_n 1, 1) := by decide +kernel
theorem dX6_told_51 : decode cX6_told 51 = .ok (.iaload, 1) := by decide +kernel
theorem dX6_told_52 : decode cX6_told 52 = .ok (.goto 15, 3) := by decide +kernel
theorem dX6_told_55 : decode cX6_told 55 = .ok (.aload_n 0, 1) := by decide +kernel
theorem dX6_told_56 : decode cX6_told 56 = .ok (.getfield 74, 3) := by decide +kernel
theorem dX6_told_59 : decode cX6_told 59 = .ok (.iconst 4, 1) := by decide +kernel
theorem dX6_told_60 : decode cX6_told 60 = .ok (.iload_n 1, 1) := by decide +kernel
theorem dX6_told_61 : decode cX6_told 61 = .ok (.imul, 1) := by decide +kernel
theorem dX6_told_62 : decode cX6_told 62 = .ok (.iload_n 2, 1) := by decide +kernel
theorem dX6_told_63 : decode cX6_told 63 = .ok (.iadd, 1) := by decide +kernel
theorem dX6_told_64 : decode cX6_told 64 = .ok (.iconst 3, 1) := by decide +kernel
theorem dX6_told_65 : decode cX6_told 65 = .ok (.isub, 1) := by decide +kernel
theorem dX6_told_66 : decode cX6_told 66 = .ok (.iaload, 1) := by decide +kernel
theorem dX6_told_67 : decode cX6_told 67 = .ok (.ireturn, 1) := by decide +kernel
set_option maxRecDepth 20000 in
theorem ggX6_areAlike_X6_grows : GoodIn wsX6_areAlike wsX6_grows := goodIn_r _ [7, 8, 9, 10, 11, 12, 13, 14, 15, 16, 17, 6, 18, 19, 20, 21, 22, 23, 24, 25, 26, 27, 28, 29, 30, 31, 32, 33, 34, 35, 36, 37, 38, 39, 40, 41, 42, 43, 44, 45, 46, 47, 48, 49, 50, 51, 52, 53, 54, 59, 60, 61, 62, 63, 64, 65, 66, 67, 68, 69, 70, 71, 72, 73, 74, 75, 76, 77, 78, 79, 80, 81, 82, 83, 84] (by decide +kernel) (by decide +kernel)
set_option maxRecDepth 20000 in
theorem gX6_areAlike_X6_grows : GoodIn wsX6_areAlike (wsV RX6 124 RX6 yX6_grows wsX6_grows) := goodIn_app (goodIn_of _ (by decide +kernel)) ggX6_areAlike_X6_grows
set_option maxRecDepth 20000 in
theorem ggX6_areAlike_X6_told : GoodIn wsX6_areAlike wsX6_told := goodIn_r _ [58, 8, 9, 10, 11, 12, 59, 60, 61, 62, 63, 64, 65, 66, 67, 68, 69, 70, 71, 72, 73, 74, 75, 76, 77, 78, 79, 80, 81, 82, 83, 84] (by decide +kernel) (by decide +kernel)
set_option maxRecDepth 20000 in
theorem gX6_areAlike_X6_told : GoodIn wsX6_areAlike (wsV RX6 143 RX6 yX6_told wsX6_told) := goodIn_app (goodIn_of _ (by decide +kernel)) ggX6_areAlike_X6_told
theorem dX6_areAlike_0 : decode cX6_areAlike 0 = .ok (.aload_n 0, 1) := by decide +kernel
theorem dX6_areAlike_1 : decode cX6_areAlike 1 = .ok (.iconst 0, 1) := by decide +kernel
theorem dX6_areAlike_2 : decode cX6_areAlike 2 = .ok (.putfield 80, 3) := by decide +kernel
theorem dX6_areAlike_5 : decode cX6_areAlike 5 = .ok (.aload_n 0, 1) := by decide +kernel
theorem dX6_areAlike_6 : decode cX6_areAlike 6 = .ok (.iconst 0, 1) := by decide +kernel
theorem dX6_areAlike_7 : decode cX6_areAlike 7 = .ok (.invokevirtual 124, 3) := by decide +kernel
theorem dX6_areAlike_10 : decode cX6_areAlike 10 = .ok (.iconst 0, 1) := by decide +kernel
theorem dX6_areAlike_11 : decode cX6_areAlike 11 = .ok (.istore_n 1, 1) := by decide +kernel
theorem dX6_areAlike_12 : decode cX6_areAlike 12 = .ok (.iload_n 1, 1) := by decide +kernel
theorem dX6_areAlike_13 : decode cX6_areAlike 13 = .ok (.sipush 294, 3) := by decide +kernel
theorem dX6_areAlike_16 : decode cX6_areAlike 16 = .ok (.if_icmp .ge 27, 3) := by decide +kernel
theorem dX6_areAlike_19 : decode cX6_areAlike 19 = .ok (.aload_n 0, 1) := by decide +kernel
theorem dX6_areAlike_20 : decode cX6_areAlike 20 = .ok (.getfield 77, 3) := by decide +kernel
theorem dX6_areAlike_23 : decode cX6_areAlike 23 = .ok (.iload_n 1, 1) := by decide +kernel
theorem dX6_areAlike_24 : decode cX6_areAlike 24 = .ok (.aload_n 0, 1) := by decide +kernel
theorem dX6_areAlike_25 : decode cX6_areAlike 25 = .ok (.iload_n 1, 1) := by decide +kernel
theorem dX6_areAlike_26 : decode cX6_areAlike 26 = .ok (.bipush 7, 2) := by decide +kernel
theorem dX6_areAlike_28 : decode cX6_areAlike 28 = .ok (.idiv, 1) := by decide +kernel
theorem dX6_areAlike_29 : decode cX6_areAlike 29 = .ok (.iload_n 1, 1) := by decide +kernel
theorem dX6_areAlike_30 : decode cX6_areAlike 30 = .ok (.bipush 7, 2) := by decide +kernel
theorem dX6_areAlike_32 : decode cX6_areAlike 32 = .ok (.irem, 1) := by decide +kernel
theorem dX6_areAlike_33 : decode cX6_areAlike 33 = .ok (.invokevirtual 143, 3) := by decide +kernel
theorem dX6_areAlike_36 : decode cX6_areAlike 36 = .ok (.iastore, 1) := by decide +kernel
theorem dX6_areAlike_37 : decode cX6_areAlike 37 = .ok (.iinc 1 1, 3) := by decide +kernel
theorem dX6_areAlike_40 : decode cX6_areAlike 40 = .ok (.goto (-28), 3) := by decide +kernel
theorem dX6_areAlike_43 : decode cX6_areAlike 43 = .ok (.aload_n 0, 1) := by decide +kernel
theorem dX6_areAlike_44 : decode cX6_areAlike 44 = .ok (.iconst 1, 1) := by decide +kernel
theorem dX6_areAlike_45 : decode cX6_areAlike 45 = .ok (.invokevirtual 124, 3) := by decide +kernel
theorem dX6_areAlike_48 : decode cX6_areAlike 48 = .ok (.iconst 1, 1) := by decide +kernel
theorem dX6_areAlike_49 : decode cX6_areAlike 49 = .ok (.istore_n 1, 1) := by decide +kernel
theorem dX6_areAlike_50 : decode cX6_areAlike 50 = .ok (.iconst 0, 1) := by decide +kernel
theorem dX6_areAlike_51 : decode cX6_areAlike 51 = .ok (.istore_n 2, 1) := by decide +kernel
theorem dX6_areAlike_52 : decode cX6_areAlike 52 = .ok (.iload_n 2, 1) := by decide +kernel
theorem dX6_areAlike_53 : decode cX6_areAlike 53 = .ok (.sipush 294, 3) := by decide +kernel
theorem dX6_areAlike_56 : decode cX6_areAlike 56 = .ok (.if_icmp .ge 38, 3) := by decide +kernel
theorem dX6_areAlike_59 : decode cX6_areAlike 59 = .ok (.iload_n 1, 1) := by decide +kernel
theorem dX6_areAlike_60 : decode cX6_areAlike 60 = .ok (.aload_n 0, 1) := by decide +kernel
theorem dX6_areAlike_61 : decode cX6_areAlike 61 = .ok (.getfield 77, 3) := by decide +kernel
theorem dX6_areAlike_64 : decode cX6_areAlike 64 = .ok (.iload_n 2, 1) := by decide +kernel
theorem dX6_areAlike_65 : decode cX6_areAlike 65 = .ok (.iaload, 1) := by decide +kernel
theorem dX6_areAlike_66 : decode cX6_areAlike 66 = .ok (.aload_n 0, 1) := by decide +kernel
theorem dX6_areAlike_67 : decode cX6_areAlike 67 = .ok (.iload_n 2, 1) := by decide +kernel
theorem dX6_areAlike_68 : decode cX6_areAlike 68 = .ok (.bipush 7, 2) := by decide +kernel
theorem dX6_areAlike_70 : decode cX6_areAlike 70 = .ok (.idiv, 1) := by decide +kernel
theorem dX6_areAlike_71 : decode cX6_areAlike 71 = .ok (.iload_n 2, 1) := by decide +kernel
theorem dX6_areAlike_72 : decode cX6_areAlike 72 = .ok (.bipush 7, 2) := by decide +kernel
theorem dX6_areAlike_74 : decode cX6_areAlike 74 = .ok (.irem, 1) := by decide +kernel
theorem dX6_areAlike_75 : decode cX6_areAlike 75 = .ok (.invokevirtual 143, 3) := by decide +kernel
theorem dX6_areAlike_78 : decode cX6_areAlike 78 = .ok (.if_icmp .ne 7, 3) := by decide +kernel
theorem dX6_areAlike_81 : decode cX6_areAlike 81 = .ok (.iconst 1, 1) := by decide +kernel
theorem dX6_areAlike_82 : decode cX6_areAlike 82 = .ok (.goto 4, 3) := by decide +kernel
theorem dX6_areAlike_85 : decode cX6_areAlike 85 = .ok (.iconst 0, 1) := by decide +kernel
theorem dX6_areAlike_86 : decode cX6_areAlike 86 = .ok (.iand, 1) := by decide +kernel
theorem dX6_areAlike_87 : decode cX6_areAlike 87 = .ok (.istore_n 1, 1) := by decide +kernel
theorem dX6_areAlike_88 : decode cX6_areAlike 88 = .ok (.iinc 2 1, 3) := by decide +kernel
theorem dX6_areAlike_91 : decode cX6_areAlike 91 = .ok (.goto (-39), 3) := by decide +kernel
theorem dX6_areAlike_94 : decode cX6_areAlike 94 = .ok (.iload_n 1, 1) := by decide +kernel
theorem dX6_areAlike_95 : decode cX6_areAlike 95 = .ok (.ireturn, 1) := by decide +kernel
set_option maxRecDepth 20000 in
theorem ggX6_setRight_X6_isIn : GoodIn wsX6_setRight wsX6_isIn := goodIn_r _ [6] (by decide +kernel) (by decide +kernel)
set_option maxRecDepth 20000 in
theorem gX6_setRight_X6_isIn : GoodIn wsX6_setRight (va_wsS RX6 84 yX6_isIn wsX6_isIn) := goodIn_app (goodIn_of _ (by decide +kernel)) ggX6_setRight_X6_isIn
theorem dX6_setRight_0 : decode cX6_setRight 0 = .ok (.aload_n 0, 1) := by decide +kernel
theorem dX6_setRight_1 : decode cX6_setRight 1 = .ok (.iload_n 1, 1) := by decide +kernel
theorem dX6_setRight_2 : decode cX6_setRight 2 = .ok (.iconst 0, 1) := by decide +kernel
theorem dX6_setRight_3 : decode cX6_setRight 3 = .ok (.iconst 2, 1) := by decide +kernel
theorem dX6_setRight_4 : decode cX6_setRight 4 = .ok (.invokestatic 84, 3) := by decide +kernel
theorem dX6_setRight_7 : decode cX6_setRight 7 = .ok (.ifCond .eq 13, 3) := by decide +kernel
theorem dX6_setRight_10 : decode cX6_setRight 10 = .ok (.iload_n 2, 1) := by decide +kernel
theorem dX6_setRight_11 : decode cX6_setRight 11 = .ok (.iconst 0, 1) := by decide +kernel
theorem dX6_setRight_12 : decode cX6_setRight 12 = .ok (.bipush 41, 2) := by decide +kernel
theorem dX6_setRight_14 : decode cX6_setRight 14 = .ok (.invokestatic 84, 3) := by decide +kernel
theorem dX6_setRight_17 : decode cX6_setRight 17 = .ok (.ifCond .ne 7, 3) := by decide +kernel
theorem dX6_setRight_20 : decode cX6_setRight 20 = .ok (.iconst 1, 1) := by decide +kernel
theorem dX6_setRight_21 : decode cX6_setRight 21 = .ok (.goto 17, 3) := by decide +kernel
theorem dX6_setRight_24 : decode cX6_setRight 24 = .ok (.iload_n 3, 1) := by decide +kernel
theorem dX6_setRight_25 : decode cX6_setRight 25 = .ok (.iconst (-1), 1) := by decide +kernel
theorem dX6_setRight_26 : decode cX6_setRight 26 = .ok (.iconst 1, 1) := by decide +kernel
theorem dX6_setRight_27 : decode cX6_setRight 27 = .ok (.invokestatic 84, 3) := by decide +kernel
theorem dX6_setRight_30 : decode cX6_setRight 30 = .ok (.ifCond .eq 7, 3) := by decide +kernel
theorem dX6_setRight_33 : decode cX6_setRight 33 = .ok (.iconst 0, 1) := by decide +kernel
theorem dX6_setRight_34 : decode cX6_setRight 34 = .ok (.goto 4, 3) := by decide +kernel
theorem dX6_setRight_37 : decode cX6_setRight 37 = .ok (.iconst 2, 1) := by decide +kernel
theorem dX6_setRight_38 : decode cX6_setRight 38 = .ok (.putfield 80, 3) := by decide +kernel
theorem dX6_setRight_41 : decode cX6_setRight 41 = .ok (.aload_n 0, 1) := by decide +kernel
theorem dX6_setRight_42 : decode cX6_setRight 42 = .ok (.getfield 80, 3) := by decide +kernel
theorem dX6_setRight_45 : decode cX6_setRight 45 = .ok (.ifCond .ne 15, 3) := by decide +kernel
theorem dX6_setRight_48 : decode cX6_setRight 48 = .ok (.aload_n 0, 1) := by decide +kernel
theorem dX6_setRight_49 : decode cX6_setRight 49 = .ok (.getfield 43, 3) := by decide +kernel
theorem dX6_setRight_52 : decode cX6_setRight 52 = .ok (.bipush 42, 2) := by decide +kernel
theorem dX6_setRight_54 : decode cX6_setRight 54 = .ok (.iload_n 1, 1) := by decide +kernel
theorem dX6_setRight_55 : decode cX6_setRight 55 = .ok (.imul, 1) := by decide +kernel
theorem dX6_setRight_56 : decode cX6_setRight 56 = .ok (.iload_n 2, 1) := by decide +kernel
theorem dX6_setRight_57 : decode cX6_setRight 57 = .ok (.iadd, 1) := by decide +kernel
theorem dX6_setRight_58 : decode cX6_setRight 58 = .ok (.iload_n 3, 1) := by decide +kernel
theorem dX6_setRight_59 : decode cX6_setRight 59 = .ok (.iastore, 1) := by decide +kernel
theorem dX6_setRight_60 : decode cX6_setRight 60 = .ok (.return_, 1) := by decide +kernel
set_option maxRecDepth 20000 in
theorem ggX6_refer_X6_isIn : GoodIn wsX6_refer wsX6_isIn := goodIn_r _ [6] (by decide +kernel) (by decide +kernel)
set_option maxRecDepth 20000 in
theorem gX6_refer_X6_isIn : GoodIn wsX6_refer (va_wsS RX6 84 yX6_isIn wsX6_isIn) := goodIn_app (goodIn_of _ (by decide +kernel)) ggX6_refer_X6_isIn
theorem dX6_refer_0 : decode cX6_refer 0 = .ok (.aload_n 0, 1) := by decide +kernel
theorem dX6_refer_1 : decode cX6_refer 1 = .ok (.iload_n 1, 1) := by decide +kernel
theorem dX6_refer_2 : decode cX6_refer 2 = .ok (.iconst 0, 1) := by decide +kernel
theorem dX6_refer_3 : decode cX6_refer 3 = .ok (.bipush 41, 2) := by decide +kernel
theorem dX6_refer_5 : decode cX6_refer 5 = .ok (.invokestatic 84, 3) := by decide +kernel
theorem dX6_refer_8 : decode cX6_refer 8 = .ok (.ifCond .eq 7, 3) := by decide +kernel
theorem dX6_refer_11 : decode cX6_refer 11 = .ok (.iconst 0, 1) := by decide +kernel
theorem dX6_refer_12 : decode cX6_refer 12 = .ok (.goto 4, 3) := by decide +kernel
theorem dX6_refer_15 : decode cX6_refer 15 = .ok (.iconst 1, 1) := by decide +kernel
theorem dX6_refer_16 : decode cX6_refer 16 = .ok (.putfield 80, 3) := by decide +kernel
theorem dX6_refer_19 : decode cX6_refer 19 = .ok (.aload_n 0, 1) := by decide +kernel
theorem dX6_refer_20 : decode cX6_refer 20 = .ok (.getfield 80, 3) := by decide +kernel
theorem dX6_refer_23 : decode cX6_refer 23 = .ok (.ifCond .ne 10, 3) := by decide +kernel
theorem dX6_refer_26 : decode cX6_refer 26 = .ok (.aload_n 0, 1) := by decide +kernel
theorem dX6_refer_27 : decode cX6_refer 27 = .ok (.getfield 46, 3) := by decide +kernel
theorem dX6_refer_30 : decode cX6_refer 30 = .ok (.iload_n 1, 1) := by decide +kernel
theorem dX6_refer_31 : decode cX6_refer 31 = .ok (.iload_n 2, 1) := by decide +kernel
theorem dX6_refer_32 : decode cX6_refer 32 = .ok (.bastore, 1) := by decide +kernel
theorem dX6_refer_33 : decode cX6_refer 33 = .ok (.return_, 1) := by decide +kernel
theorem dX6_makes_0 : decode cX6_makes 0 = .ok (.aload_n 0, 1) := by decide +kernel
theorem dX6_makes_1 : decode cX6_makes 1 = .ok (.getfield 50, 3) := by decide +kernel
theorem dX6_makes_4 : decode cX6_makes 4 = .ok (.aload_n 0, 1) := by decide +kernel
theorem dX6_makes_5 : decode cX6_makes 5 = .ok (.getfield 146, 3) := by decide +kernel
theorem dX6_makes_8 : decode cX6_makes 8 = .ok (.iload_n 1, 1) := by decide +kernel
theorem dX6_makes_9 : decode cX6_makes 9 = .ok (.iastore, 1) := by decide +kernel
theorem dX6_makes_10 : decode cX6_makes 10 = .ok (.aload_n 0, 1) := by decide +kernel
theorem dX6_makes_11 : decode cX6_makes 11 = .ok (.getfield 53, 3) := by decide +kernel
theorem dX6_makes_14 : decode cX6_makes 14 = .ok (.aload_n 0, 1) := by decide +kernel
theorem dX6_makes_15 : decode cX6_makes 15 = .ok (.getfield 146, 3) := by decide +kernel
theorem dX6_makes_18 : decode cX6_makes 18 = .ok (.iload_n 2, 1) := by decide +kernel
theorem dX6_makes_19 : decode cX6_makes 19 = .ok (.iastore, 1) := by decide +kernel
theorem dX6_makes_20 : decode cX6_makes 20 = .ok (.aload_n 0, 1) := by decide +kernel
theorem dX6_makes_21 : decode cX6_makes 21 = .ok (.getfield 56, 3) := by decide +kernel
theorem dX6_makes_24 : decode cX6_makes 24 = .ok (.aload_n 0, 1) := by decide +kernel
theorem dX6_makes_25 : decode cX6_makes 25 = .ok (.getfield 146, 3) := by decide +kernel
theorem dX6_makes_28 : decode cX6_makes 28 = .ok (.iload_n 3, 1) := by decide +kernel
theorem dX6_makes_29 : decode cX6_makes 29 = .ok (.iastore, 1) := by decide +kernel
theorem dX6_makes_30 : decode cX6_makes 30 = .ok (.aload_n 0, 1) := by decide +kernel
theorem dX6_makes_31 : decode cX6_makes 31 = .ok (.dup, 1) := by decide +kernel
theorem dX6_makes_32 : decode cX6_makes 32 = .ok (.getfield 146, 3) := by decide +kernel
theorem dX6_makes_35 : decode cX6_makes 35 = .ok (.iconst 1, 1) := by decide +kernel
theorem dX6_makes_36 : decode cX6_makes 36 = .ok (.iadd, 1) := by decide +kernel
theorem dX6_makes_37 : decode cX6_makes 37 = .ok (.putfield 146, 3) := by decide +kernel
theorem dX6_makes_40 : decode cX6_makes 40 = .ok (.aload_n 0, 1) := by decide +kernel
theorem dX6_makes_41 : decode cX6_makes 41 = .ok (.getfield 146, 3) := by decide +kernel
theorem dX6_makes_44 : decode cX6_makes 44 = .ok (.iconst 1, 1) := by decide +kernel
theorem dX6_makes_45 : decode cX6_makes 45 = .ok (.isub, 1) := by decide +kernel
theorem dX6_makes_46 : decode cX6_makes 46 = .ok (.ireturn, 1) := by decide +kernel
set_option maxRecDepth 20000 in
theorem ggX6_test_X6_isIn : GoodIn wsX6_test wsX6_isIn := goodIn_r _ [6] (by decide +kernel) (by decide +kernel)
set_option maxRecDepth 20000 in
theorem gX6_test_X6_isIn : GoodIn wsX6_test (va_wsS RX6 84 yX6_isIn wsX6_isIn) := goodIn_app (goodIn_of _ (by decide +kernel)) ggX6_test_X6_isIn
set_option maxRecDepth 20000 in
theorem ggX6_test_X6_makes : GoodIn wsX6_test wsX6_makes := goodIn_r _ [10, 11, 1, 12, 13, 14, 15, 16, 17, 18, 19, 20, 21, 22, 23, 24, 25, 26, 27, 28, 29, 30, 31, 32, 33, 34, 35, 36, 37, 38, 39] (by decide +kernel) (by decide +kernel)
set_option maxRecDepth 20000 in
theorem gX6_test_X6_makes : GoodIn wsX6_test (wsV RX6 149 RX6 yX6_makes wsX6_makes) := goodIn_app (goodIn_of _ (by decide +kernel)) ggX6_test_X6_makes
theorem dX6_test_0 : decode cX6_test 0 = .ok (.iload_n 1, 1) := by decide +kernel
theorem dX6_test_1 : decode cX6_test 1 = .ok (.iconst 0, 1) := by decide +kernel
theorem dX6_test_2 : decode cX6_test 2 = .ok (.iconst 2, 1) := by decide +kernel
theorem dX6_test_3 : decode cX6_test 3 = .ok (.invokestatic 84, 3) := by decide +kernel
theorem dX6_test_6 : decode cX6_test 6 = .ok (.ifCond .eq 26, 3) := by decide +kernel
theorem dX6_test_9 : decode cX6_test 9 = .ok (.iload_n 2, 1) := by decide +kernel
theorem dX6_test_10 : decode cX6_test 10 = .ok (.iconst 0, 1) := by decide +kernel
theorem dX6_test_11 : decode cX6_test 11 = .ok (.iconst 3, 1) := by decide +kernel
theorem dX6_test_12 : decode cX6_test 12 = .ok (.invokestatic 84, 3) := by decide +kernel
theorem dX6_test_15 : decode cX6_test 15 = .ok (.ifCond .eq 17, 3) := by decide +kernel
theorem dX6_test_18 : decode cX6_test 18 = .ok (.iload_n 3, 1) := by decide +kernel
theorem dX6_test_19 : decode cX6_test 19 = .ok (.iconst 0, 1) := by decide +kernel
theorem dX6_test_20 : decode cX6_test 20 = .ok (.bipush 9, 2) := by decide +kernel
theorem dX6_test_22 : decode cX6_test 22 = .ok (.invokestatic 84, 3) := by decide +kernel
theorem dX6_test_25 : decode cX6_test 25 = .ok (.ifCond .eq 7, 3) := by decide +kernel
theorem dX6_test_28 : decode cX6_test 28 = .ok (.iconst 1, 1) := by decide +kernel
theorem dX6_test_29 : decode cX6_test 29 = .ok (.goto 4, 3) := by decide +kernel
theorem dX6_test_32 : decode cX6_test 32 = .ok (.iconst 0, 1) := by decide +kernel
theorem dX6_test_33 : decode cX6_test 33 = .ok (.istore 4, 2) := by decide +kernel
theorem dX6_test_35 : decode cX6_test 35 = .ok (.aload_n 0, 1) := by decide +kernel
theorem dX6_test_36 : decode cX6_test 36 = .ok (.iload 4, 2) := by decide +kernel
theorem dX6_test_38 : decode cX6_test 38 = .ok (.ifCond .ne 7, 3) := by decide +kernel
theorem dX6_test_41 : decode cX6_test 41 = .ok (.iconst 1, 1) := by decide +kernel
theorem dX6_test_42 : decode cX6_test 42 = .ok (.goto 17, 3) := by decide +kernel
theorem dX6_test_45 : decode cX6_test 45 = .ok (.aload_n 0, 1) := by decide +kernel
theorem dX6_test_46 : decode cX6_test 46 = .ok (.getfield 146, 3) := by decide +kernel
theorem dX6_test_49 : decode cX6_test 49 = .ok (.bipush 20, 2) := by decide +kernel
theorem dX6_test_51 : decode cX6_test 51 = .ok (.if_icmp .ne 7, 3) := by decide +kernel
theorem dX6_test_54 : decode cX6_test 54 = .ok (.iconst 2, 1) := by decide +kernel
theorem dX6_test_55 : decode cX6_test 55 = .ok (.goto 4, 3) := by decide +kernel
theorem dX6_test_58 : decode cX6_test 58 = .ok (.iconst 0, 1) := by decide +kernel
theorem dX6_test_59 : decode cX6_test 59 = .ok (.putfield 80, 3) := by decide +kernel
theorem dX6_test_62 : decode cX6_test 62 = .ok (.aload_n 0, 1) := by decide +kernel
theorem dX6_test_63 : decode cX6_test 63 = .ok (.getfield 80, 3) := by decide +kernel
theorem dX6_test_66 : decode cX6_test 66 = .ok (.ifCond .le 7, 3) := by decide +kernel
theorem dX6_test_69 : decode cX6_test 69 = .ok (.iconst 0, 1) := by decide +kernel
theorem dX6_test_70 : decode cX6_test 70 = .ok (.goto 10, 3) := by decide +kernel
theorem dX6_test_73 : decode cX6_test 73 = .ok (.aload_n 0, 1) := by decide +kernel
theorem dX6_test_74 : decode cX6_test 74 = .ok (.iload_n 1, 1) := by decide +kernel
theorem dX6_test_75 : decode cX6_test 75 = .ok (.iload_n 2, 1) := by decide +kernel
theorem dX6_test_76 : decode cX6_test 76 = .ok (.iload_n 3, 1) := by decide +kernel
theorem dX6_test_77 : decode cX6_test 77 = .ok (.invokevirtual 149, 3) := by decide +kernel
theorem dX6_test_80 : decode cX6_test 80 = .ok (.ireturn, 1) := by decide +kernel
set_option maxRecDepth 20000 in
theorem ggX6_isFilter_X6_isIn : GoodIn wsX6_isFilter wsX6_isIn := goodIn_r _ [5] (by decide +kernel) (by decide +kernel)
set_option maxRecDepth 20000 in
theorem gX6_isFilter_X6_isIn : GoodIn wsX6_isFilter (va_wsS RX6 84 yX6_isIn wsX6_isIn) := goodIn_app (goodIn_of _ (by decide +kernel)) ggX6_isFilter_X6_isIn
theorem dX6_isFilter_0 : decode cX6_isFilter 0 = .ok (.iload_n 1, 1) := by decide +kernel
theorem dX6_isFilter_1 : decode cX6_isFilter 1 = .ok (.iconst 0, 1) := by decide +kernel
theorem dX6_isFilter_2 : decode cX6_isFilter 2 = .ok (.aload_n 0, 1) := by decide +kernel
theorem dX6_isFilter_3 : decode cX6_isFilter 3 = .ok (.getfield 146, 3) := by decide +kernel
theorem dX6_isFilter_6 : decode cX6_isFilter 6 = .ok (.iconst 1, 1) := by decide +kernel
theorem dX6_isFilter_7 : decode cX6_isFilter 7 = .ok (.isub, 1) := by decide +kernel
theorem dX6_isFilter_8 : decode cX6_isFilter 8 = .ok (.invokestatic 84, 3) := by decide +kernel
theorem dX6_isFilter_11 : decode cX6_isFilter 11 = .ok (.ireturn, 1) := by decide +kernel
set_option maxRecDepth 20000 in
theorem ggX6_join_X6_isFilter : GoodIn wsX6_join wsX6_isFilter := goodIn_r _ [7, 1, 8, 9, 6, 10, 18, 19, 20, 21, 22, 23, 24, 25, 26, 27, 28, 29, 30, 31, 32, 33, 34, 35, 36, 37, 38, 39, 40, 41, 42, 43] (by decide +kernel) (by decide +kernel)
set_option maxRecDepth 20000 in
theorem gX6_join_X6_isFilter : GoodIn wsX6_join (wsV RX6 152 RX6 yX6_isFilter wsX6_isFilter) := goodIn_app (goodIn_of _ (by decide +kernel)) ggX6_join_X6_isFilter
set_option maxRecDepth 20000 in
theorem ggX6_join_X6_isIn : GoodIn wsX6_join wsX6_isIn := goodIn_r _ [10] (by decide +kernel) (by decide +kernel)
set_option maxRecDepth 20000 in
theorem gX6_join_X6_isIn : GoodIn wsX6_join (va_wsS RX6 84 yX6_isIn wsX6_isIn) := goodIn_app (goodIn_of _ (by decide +kernel)) ggX6_join_X6_isIn
set_option maxRecDepth 20000 in
theorem ggX6_join_X6_makes : GoodIn wsX6_join wsX6_makes := goodIn_r _ [14, 15, 1, 16, 17, 18, 19, 20, 21, 22, 23, 24, 25, 26, 27, 28, 29, 30, 31, 32, 33, 34, 35, 36, 37, 38, 39, 40, 41, 42, 43] (by decide +kernel) (by decide +kernel)
set_option maxRecDepth 20000 in
theorem gX6_join_X6_makes : GoodIn wsX6_join (wsV RX6 149 RX6 yX6_makes wsX6_makes) := goodIn_app (goodIn_of _ (by decide +kernel)) ggX6_join_X6_makes
theorem dX6_join_0 : decode cX6_join 0 = .ok (.aload_n 0, 1) := by decide +kernel
theorem dX6_join_1 : decode cX6_join 1 = .ok (.aload_n 0, 1) := by decide +kernel
theorem dX6_join_2 : decode cX6_join 2 = .ok (.iload_n 2, 1) := by decide +kernel
theorem dX6_join_3 : decode cX6_join 3 = .ok (.invokevirtual 152, 3) := by decide +kernel
theorem dX6_join_6 : decode cX6_join 6 = .ok (.ifCond .eq 11, 3) := by decide +kernel
theorem dX6_join_9 : decode cX6_join 9 = .ok (.aload_n 0, 1) := by decide +kernel
theorem dX6_join_10 : decode cX6_join 10 = .ok (.iload_n 3, 1) := by decide +kernel
theorem dX6_join_11 : decode cX6_join 11 = .ok (.invokevirtual 152, 3) := by decide +kernel
theorem dX6_join_14 : decode cX6_join 14 = .ok (.ifCond .ne 7, 3) := by decide +kernel
theorem dX6_join_17 : decode cX6_join 17 = .ok (.iconst 1, 1) := by decide +kernel
theorem dX6_join_18 : decode cX6_join 18 = .ok (.goto 30, 3) := by decide +kernel
theorem dX6_join_21 : decode cX6_join 21 = .ok (.iload_n 1, 1) := by decide +kernel
theorem dX6_join_22 : decode cX6_join 22 = .ok (.iconst 0, 1) := by decide +kernel
theorem dX6_join_23 : decode cX6_join 23 = .ok (.iconst 2, 1) := by decide +kernel
theorem dX6_join_24 : decode cX6_join 24 = .ok (.invokestatic 84, 3) := by decide +kernel
theorem dX6_join_27 : decode cX6_join 27 = .ok (.ifCond .ne 7, 3) := by decide +kernel
theorem dX6_join_30 : decode cX6_join 30 = .ok (.iconst 2, 1) := by decide +kernel
theorem dX6_join_31 : decode cX6_join 31 = .ok (.goto 17, 3) := by decide +kernel
theorem dX6_join_34 : decode cX6_join 34 = .ok (.aload_n 0, 1) := by decide +kernel
theorem dX6_join_35 : decode cX6_join 35 = .ok (.getfield 146, 3) := by decide +kernel
theorem dX6_join_38 : decode cX6_join 38 = .ok (.bipush 20, 2) := by decide +kernel
theorem dX6_join_40 : decode cX6_join 40 = .ok (.if_icmp .ne 7, 3) := by decide +kernel
theorem dX6_join_43 : decode cX6_join 43 = .ok (.iconst 3, 1) := by decide +kernel
theorem dX6_join_44 : decode cX6_join 44 = .ok (.goto 4, 3) := by decide +kernel
theorem dX6_join_47 : decode cX6_join 47 = .ok (.iconst 0, 1) := by decide +kernel
theorem dX6_join_48 : decode cX6_join 48 = .ok (.putfield 80, 3) := by decide +kernel
theorem dX6_join_51 : decode cX6_join 51 = .ok (.aload_n 0, 1) := by decide +kernel
theorem dX6_join_52 : decode cX6_join 52 = .ok (.getfield 80, 3) := by decide +kernel
theorem dX6_join_55 : decode cX6_join 55 = .ok (.ifCond .le 7, 3) := by decide +kernel
theorem dX6_join_58 : decode cX6_join 58 = .ok (.iconst 0, 1) := by decide +kernel
theorem dX6_join_59 : decode cX6_join 59 = .ok (.goto 12, 3) := by decide +kernel
theorem dX6_join_62 : decode cX6_join 62 = .ok (.aload_n 0, 1) := by decide +kernel
theorem dX6_join_63 : decode cX6_join 63 = .ok (.iconst 3, 1) := by decide +kernel
theorem dX6_join_64 : decode cX6_join 64 = .ok (.iload_n 1, 1) := by decide +kernel
theorem dX6_join_65 : decode cX6_join 65 = .ok (.iadd, 1) := by decide +kernel
theorem dX6_join_66 : decode cX6_join 66 = .ok (.iload_n 2, 1) := by decide +kernel
theorem dX6_join_67 : decode cX6_join 67 = .ok (.iload_n 3, 1) := by decide +kernel
theorem dX6_join_68 : decode cX6_join 68 = .ok (.invokevirtual 149, 3) := by decide +kernel
theorem dX6_join_71 : decode cX6_join 71 = .ok (.ireturn, 1) := by decide +kernel
set_option maxRecDepth 20000 in
theorem ggX6_tested_X6_allowed : GoodIn wsX6_tested wsX6_allowed := goodIn_r _ [9, 10, 11, 12, 13, 14, 15, 16, 17, 18, 19, 20, 21, 22, 23, 24, 25, 26, 27, 28, 29, 30, 31, 32, 33, 34, 35, 36, 37] (by decide +kernel) (by decide +kernel)
set_option maxRecDepth 20000 in
theorem gX6_tested_X6_allowed : GoodIn wsX6_tested (wsV RX6 103 RX6 yX6_allowed wsX6_allowed) := goodIn_app (goodIn_of _ (by decide +kernel)) ggX6_tested_X6_allowed
theorem dX6_tested_0 : decode cX6_tested 0 = .ok (.aload_n 0, 1) := by decide +kernel
theorem dX6_tested_1 : decode cX6_tested 1 = .ok (.getfield 74, 3) := by decide +kernel
theorem dX6_tested_4 : decode cX6_tested 4 = .ok (.iconst 4, 1) := by decide +kernel
theorem dX6_tested_5 : decode cX6_tested 5 = .ok (.iload_n 2, 1) := by decide +kernel
theorem dX6_tested_6 : decode cX6_tested 6 = .ok (.imul, 1) := by decide +kernel
theorem dX6_tested_7 : decode cX6_tested 7 = .ok (.aload_n 0, 1) := by decide +kernel
theorem dX6_tested_8 : decode cX6_tested 8 = .ok (.getfield 53, 3) := by decide +kernel
theorem dX6_tested_11 : decode cX6_tested 11 = .ok (.iload_n 1, 1) := by decide +kernel
theorem dX6_tested_12 : decode cX6_tested 12 = .ok (.iaload, 1) := by decide +kernel
theorem dX6_tested_13 : decode cX6_tested 13 = .ok (.iadd, 1) := by decide +kernel
theorem dX6_tested_14 : decode cX6_tested 14 = .ok (.iaload, 1) := by decide +kernel
theorem dX6_tested_15 : decode cX6_tested 15 = .ok (.istore_n 3, 1) := by decide +kernel
theorem dX6_tested_16 : decode cX6_tested 16 = .ok (.aload_n 0, 1) := by decide +kernel
theorem dX6_tested_17 : decode cX6_tested 17 = .ok (.getfield 50, 3) := by decide +kernel
theorem dX6_tested_20 : decode cX6_tested 20 = .ok (.iload_n 1, 1) := by decide +kernel
theorem dX6_tested_21 : decode cX6_tested 21 = .ok (.iaload, 1) := by decide +kernel
theorem dX6_tested_22 : decode cX6_tested 22 = .ok (.ifCond .ne 15, 3) := by decide +kernel
theorem dX6_tested_25 : decode cX6_tested 25 = .ok (.iload_n 3, 1) := by decide +kernel
theorem dX6_tested_26 : decode cX6_tested 26 = .ok (.ifCond .lt 7, 3) := by decide +kernel
theorem dX6_tested_29 : decode cX6_tested 29 = .ok (.iconst 1, 1) := by decide +kernel
theorem dX6_tested_30 : decode cX6_tested 30 = .ok (.goto 50, 3) := by decide +kernel
theorem dX6_tested_33 : decode cX6_tested 33 = .ok (.iconst 0, 1) := by decide +kernel
theorem dX6_tested_34 : decode cX6_tested 34 = .ok (.goto 46, 3) := by decide +kernel
theorem dX6_tested_37 : decode cX6_tested 37 = .ok (.aload_n 0, 1) := by decide +kernel
theorem dX6_tested_38 : decode cX6_tested 38 = .ok (.getfield 50, 3) := by decide +kernel
theorem dX6_tested_41 : decode cX6_tested 41 = .ok (.iload_n 1, 1) := by decide +kernel
theorem dX6_tested_42 : decode cX6_tested 42 = .ok (.iaload, 1) := by decide +kernel
theorem dX6_tested_43 : decode cX6_tested 43 = .ok (.iconst 1, 1) := by decide +kernel
theorem dX6_tested_44 : decode cX6_tested 44 = .ok (.if_icmp .ne 21, 3) := by decide +kernel
theorem dX6_tested_47 : decode cX6_tested 47 = .ok (.iload_n 3, 1) := by decide +kernel
theorem dX6_tested_48 : decode cX6_tested 48 = .ok (.aload_n 0, 1) := by decide +kernel
theorem dX6_tested_49 : decode cX6_tested 49 = .ok (.getfield 56, 3) := by decide +kernel
theorem dX6_tested_52 : decode cX6_tested 52 = .ok (.iload_n 1, 1) := by decide +kernel
theorem dX6_tested_53 : decode cX6_tested 53 = .ok (.iaload, 1) := by decide +kernel
theorem dX6_tested_54 : decode cX6_tested 54 = .ok (.if_icmp .ne 7, 3) := by decide +kernel
theorem dX6_tested_57 : decode cX6_tested 57 = .ok (.iconst 1, 1) := by decide +kernel
theorem dX6_tested_58 : decode cX6_tested 58 = .ok (.goto 22, 3) := by decide +kernel
theorem dX6_tested_61 : decode cX6_tested 61 = .ok (.iconst 0, 1) := by decide +kernel
theorem dX6_tested_62 : decode cX6_tested 62 = .ok (.goto 18, 3) := by decide +kernel
theorem dX6_tested_65 : decode cX6_tested 65 = .ok (.iload_n 3, 1) := by decide +kernel
theorem dX6_tested_66 : decode cX6_tested 66 = .ok (.aload_n 0, 1) := by decide +kernel
theorem dX6_tested_67 : decode cX6_tested 67 = .ok (.getfield 56, 3) := by decide +kernel
theorem dX6_tested_70 : decode cX6_tested 70 = .ok (.iload_n 1, 1) := by decide +kernel
theorem dX6_tested_71 : decode cX6_tested 71 = .ok (.iaload, 1) := by decide +kernel
theorem dX6_tested_72 : decode cX6_tested 72 = .ok (.if_icmp .lt 7, 3) := by decide +kernel
theorem dX6_tested_75 : decode cX6_tested 75 = .ok (.iconst 1, 1) := by decide +kernel
theorem dX6_tested_76 : decode cX6_tested 76 = .ok (.goto 4, 3) := by decide +kernel
theorem dX6_tested_79 : decode cX6_tested 79 = .ok (.iconst 0, 1) := by decide +kernel
theorem dX6_tested_80 : decode cX6_tested 80 = .ok (.istore 4, 2) := by decide +kernel
theorem dX6_tested_82 : decode cX6_tested 82 = .ok (.aload_n 0, 1) := by decide +kernel
theorem dX6_tested_83 : decode cX6_tested 83 = .ok (.iload_n 2, 1) := by decide +kernel
theorem dX6_tested_84 : decode cX6_tested 84 = .ok (.aload_n 0, 1) := by decide +kernel
theorem dX6_tested_85 : decode cX6_tested 85 = .ok (.getfield 53, 3) := by decide +kernel
theorem dX6_tested_88 : decode cX6_tested 88 = .ok (.iload_n 1, 1) := by decide +kernel
theorem dX6_tested_89 : decode cX6_tested 89 = .ok (.iaload, 1) := by decide +kernel
theorem dX6_tested_90 : decode cX6_tested 90 = .ok (.invokevirtual 103, 3) := by decide +kernel
theorem dX6_tested_93 : decode cX6_tested 93 = .ok (.ifCond .ne 7, 3) := by decide +kernel
theorem dX6_tested_96 : decode cX6_tested 96 = .ok (.iconst (-1), 1) := by decide +kernel
theorem dX6_tested_97 : decode cX6_tested 97 = .ok (.goto 13, 3) := by decide +kernel
theorem dX6_tested_100 : decode cX6_tested 100 = .ok (.iload 4, 2) := by decide +kernel
theorem dX6_tested_102 : decode cX6_tested 102 = .ok (.ifCond .eq 7, 3) := by decide +kernel
theorem dX6_tested_105 : decode cX6_tested 105 = .ok (.iconst 1, 1) := by decide +kernel
theorem dX6_tested_106 : decode cX6_tested 106 = .ok (.goto 4, 3) := by decide +kernel
theorem dX6_tested_109 : decode cX6_tested 109 = .ok (.iconst 0, 1) := by decide +kernel
theorem dX6_tested_110 : decode cX6_tested 110 = .ok (.ireturn, 1) := by decide +kernel
theorem dX6_both_0 : decode cX6_both 0 = .ok (.iload_n 0, 1) := by decide +kernel
theorem dX6_both_1 : decode cX6_both 1 = .ok (.ifCond .eq 7, 3) := by decide +kernel
theorem dX6_both_4 : decode cX6_both 4 = .ok (.iload_n 1, 1) := by decide +kernel
theorem dX6_both_5 : decode cX6_both 5 = .ok (.ifCond .ne 7, 3) := by decide +kernel
theorem dX6_both_8 : decode cX6_both 8 = .ok (.iconst 0, 1) := by decide +kernel
theorem dX6_both_9 : decode cX6_both 9 = .ok (.goto 16, 3) := by decide +kernel
theorem dX6_both_12 : decode cX6_both 12 = .ok (.iload_n 0, 1) := by decide +kernel
theorem dX6_both_13 : decode cX6_both 13 = .ok (.ifCond .lt 7, 3) := by decide +kernel
theorem dX6_both_16 : decode cX6_both 16 = .ok (.iload_n 1, 1) := by decide +kernel
theorem dX6_both_17 : decode cX6_both 17 = .ok (.ifCond .ge 7, 3) := by decide +kernel
theorem dX6_both_20 : decode cX6_both 20 = .ok (.iconst (-1), 1) := by decide +kernel
theorem dX6_both_21 : decode cX6_both 21 = .ok (.goto 4, 3) := by decide +kernel
theorem dX6_both_24 : decode cX6_both 24 = .ok (.iconst 1, 1) := by decide +kernel
theorem dX6_both_25 : decode cX6_both 25 = .ok (.ireturn, 1) := by decide +kernel
theorem dX6_not_0 : decode cX6_not 0 = .ok (.iload_n 0, 1) := by decide +kernel
theorem dX6_not_1 : decode cX6_not 1 = .ok (.ifCond .ge 7, 3) := by decide +kernel
theorem dX6_not_4 : decode cX6_not 4 = .ok (.iconst (-1), 1) := by decide +kernel
theorem dX6_not_5 : decode cX6_not 5 = .ok (.goto 6, 3) := by decide +kernel
theorem dX6_not_8 : decode cX6_not 8 = .ok (.iconst 1, 1) := by decide +kernel
theorem dX6_not_9 : decode cX6_not 9 = .ok (.iload_n 0, 1) := by decide +kernel
theorem dX6_not_10 : decode cX6_not 10 = .ok (.isub, 1) := by decide +kernel
theorem dX6_not_11 : decode cX6_not 11 = .ok (.ireturn, 1) := by decide +kernel
set_option maxRecDepth 20000 in
theorem ggX6_filtered_X6_tested : GoodIn wsX6_filtered wsX6_tested := goodIn_r _ [9, 10, 3, 1, 4, 11, 12, 13, 8, 14, 15, 16, 23, 24, 25, 26, 27, 28, 29, 30, 31, 32, 33, 34, 35, 36, 37, 38, 39, 40, 41, 42, 43, 44, 45, 46, 47, 48] (by decide +kernel) (by decide +kernel)
set_option maxRecDepth 20000 in
theorem gX6_filtered_X6_tested : GoodIn wsX6_filtered (wsV RX6 155 RX6 yX6_tested wsX6_tested) := goodIn_app (goodIn_of _ (by decide +kernel)) ggX6_filtered_X6_tested
set_option maxRecDepth 20000 in
theorem ggX6_filtered_X6_both : GoodIn wsX6_filtered wsX6_both := goodIn_r _ [19] (by decide +kernel) (by decide +kernel)
set_option maxRecDepth 20000 in
theorem gX6_filtered_X6_both : GoodIn wsX6_filtered (va_wsS RX6 158 yX6_both wsX6_both) := goodIn_app (goodIn_of _ (by decide +kernel)) ggX6_filtered_X6_both
set_option maxRecDepth 20000 in
theorem ggX6_filtered_X6_not : GoodIn wsX6_filtered wsX6_not := goodIn_r _ [22] (by decide +kernel) (by decide +kernel)
set_option maxRecDepth 20000 in
theorem gX6_filtered_X6_not : GoodIn wsX6_filtered (va_wsS RX6 161 yX6_not wsX6_not) := goodIn_app (goodIn_of _ (by decide +kernel)) ggX6_filtered_X6_not
theorem dX6_filtered_0 : decode cX6_filtered 0 = .ok (.iconst 0, 1) := by decide +kernel
theorem dX6_filtered_1 : decode cX6_filtered 1 = .ok (.istore_n 3, 1) := by decide +kernel
theorem dX6_filtered_2 : decode cX6_filtered 2 = .ok (.iload_n 3, 1) := by decide +kernel
theorem dX6_filtered_3 : decode cX6_filtered 3 = .ok (.iload_n 1, 1) := by decide +kernel
theorem dX6_filtered_4 : decode cX6_filtered 4 = .ok (.if_icmp .gt 142, 3) := by decide +kernel
theorem dX6_filtered_7 : decode cX6_filtered 7 = .ok (.aload_n 0, 1) := by decide +kernel
theorem dX6_filtered_8 : decode cX6_filtered 8 = .ok (.getfield 50, 3) := by decide +kernel
theorem dX6_filtered_11 : decode cX6_filtered 11 = .ok (.iload_n 3, 1) := by decide +kernel
theorem dX6_filtered_12 : decode cX6_filtered 12 = .ok (.iaload, 1) := by decide +kernel
theorem dX6_filtered_13 : decode cX6_filtered 13 = .ok (.iconst 3, 1) := by decide +kernel
theorem dX6_filtered_14 : decode cX6_filtered 14 = .ok (.if_icmp .ge 7, 3) := by decide +kernel
theorem dX6_filtered_17 : decode cX6_filtered 17 = .ok (.iconst 0, 1) := by decide +kernel
theorem dX6_filtered_18 : decode cX6_filtered 18 = .ok (.goto 14, 3) := by decide +kernel
theorem dX6_filtered_21 : decode cX6_filtered 21 = .ok (.aload_n 0, 1) := by decide +kernel
theorem dX6_filtered_22 : decode cX6_filtered 22 = .ok (.getfield 59, 3) := by decide +kernel
theorem dX6_filtered_25 : decode cX6_filtered 25 = .ok (.aload_n 0, 1) := by decide +kernel
theorem dX6_filtered_26 : decode cX6_filtered 26 = .ok (.getfield 53, 3) := by decide +kernel
theorem dX6_filtered_29 : decode cX6_filtered 29 = .ok (.iload_n 3, 1) := by decide +kernel
theorem dX6_filtered_30 : decode cX6_filtered 30 = .ok (.iaload, 1) := by decide +kernel
theorem dX6_filtered_31 : decode cX6_filtered 31 = .ok (.iaload, 1) := by decide +kernel
theorem dX6_filtered_32 : decode cX6_filtered 32 = .ok (.istore 4, 2) := by decide +kernel
theorem dX6_filtered_34 : decode cX6_filtered 34 = .ok (.aload_n 0, 1) := by decide +kernel
theorem dX6_filtered_35 : decode cX6_filtered 35 = .ok (.getfield 50, 3) := by decide +kernel
theorem dX6_filtered_38 : decode cX6_filtered 38 = .ok (.iload_n 3, 1) := by decide +kernel
theorem dX6_filtered_39 : decode cX6_filtered 39 = .ok (.iaload, 1) := by decide +kernel
theorem dX6_filtered_40 : decode cX6_filtered 40 = .ok (.iconst 3, 1) := by decide +kernel
theorem dX6_filtered_41 : decode cX6_filtered 41 = .ok (.if_icmp .ge 7, 3) := by decide +kernel
theorem dX6_filtered_44 : decode cX6_filtered 44 = .ok (.iconst 0, 1) := by decide +kernel
theorem dX6_filtered_45 : decode cX6_filtered 45 = .ok (.goto 14, 3) := by decide +kernel
theorem dX6_filtered_48 : decode cX6_filtered 48 = .ok (.aload_n 0, 1) := by decide +kernel
theorem dX6_filtered_49 : decode cX6_filtered 49 = .ok (.getfield 59, 3) := by decide +kernel
theorem dX6_filtered_52 : decode cX6_filtered 52 = .ok (.aload_n 0, 1) := by decide +kernel
theorem dX6_filtered_53 : decode cX6_filtered 53 = .ok (.getfield 56, 3) := by decide +kernel
theorem dX6_filtered_56 : decode cX6_filtered 56 = .ok (.iload_n 3, 1) := by decide +kernel
theorem dX6_filtered_57 : decode cX6_filtered 57 = .ok (.iaload, 1) := by decide +kernel
theorem dX6_filtered_58 : decode cX6_filtered 58 = .ok (.iaload, 1) := by decide +kernel
theorem dX6_filtered_59 : decode cX6_filtered 59 = .ok (.istore 5, 2) := by decide +kernel
theorem dX6_filtered_61 : decode cX6_filtered 61 = .ok (.aload_n 0, 1) := by decide +kernel
theorem dX6_filtered_62 : decode cX6_filtered 62 = .ok (.getfield 59, 3) := by decide +kernel
theorem dX6_filtered_65 : decode cX6_filtered 65 = .ok (.iload_n 3, 1) := by decide +kernel
theorem dX6_filtered_66 : decode cX6_filtered 66 = .ok (.aload_n 0, 1) := by decide +kernel
theorem dX6_filtered_67 : decode cX6_filtered 67 = .ok (.getfield 50, 3) := by decide +kernel
theorem dX6_filtered_70 : decode cX6_filtered 70 = .ok (.iload_n 3, 1) := by decide +kernel
theorem dX6_filtered_71 : decode cX6_filtered 71 = .ok (.iaload, 1) := by decide +kernel
theorem dX6_filtered_72 : decode cX6_filtered 72 = .ok (.iconst 3, 1) := by decide +kernel
theorem dX6_filtered_73 : decode cX6_filtered 73 = .ok (.if_icmp .ge 12, 3) := by decide +kernel
theorem dX6_filtered_76 : decode cX6_filtered 76 = .ok (.aload_n 0, 1) := by decide +kernel
theorem dX6_filtered_77 : decode cX6_filtered 77 = .ok (.iload_n 3, 1) := by decide +kernel
theorem dX6_filtered_78 : decode cX6_filtered 78 = .ok (.iload_n 2, 1) := by decide +kernel
theorem dX6_filtered_79 : decode cX6_filtered 79 = .ok (.invokevirtual 155, 3) := by decide +kernel
theorem dX6_filtered_82 : decode cX6_filtered 82 = .ok (.goto 57, 3) := by decide +kernel
theorem dX6_filtered_85 : decode cX6_filtered 85 = .ok (.aload_n 0, 1) := by decide +kernel
theorem dX6_filtered_86 : decode cX6_filtered 86 = .ok (.getfield 50, 3) := by decide +kernel
theorem dX6_filtered_89 : decode cX6_filtered 89 = .ok (.iload_n 3, 1) := by decide +kernel
theorem dX6_filtered_90 : decode cX6_filtered 90 = .ok (.iaload, 1) := by decide +kernel
theorem dX6_filtered_91 : decode cX6_filtered 91 = .ok (.iconst 3, 1) := by decide +kernel
theorem dX6_filtered_92 : decode cX6_filtered 92 = .ok (.if_icmp .ne 13, 3) := by decide +kernel
theorem dX6_filtered_95 : decode cX6_filtered 95 = .ok (.iload 4, 2) := by decide +kernel
theorem dX6_filtered_97 : decode cX6_filtered 97 = .ok (.iload 5, 2) := by decide +kernel
theorem dX6_filtered_99 : decode cX6_filtered 99 = .ok (.invokestatic 158, 3) := by decide +kernel
theorem dX6_filtered_102 : decode cX6_filtered 102 = .ok (.goto 37, 3) := by decide +kernel
theorem dX6_filtered_105 : decode cX6_filtered 105 = .ok (.aload_n 0, 1) := by decide +kernel
theorem dX6_filtered_106 : decode cX6_filtered 106 = .ok (.getfield 50, 3) := by decide +kernel
theorem dX6_filtered_109 : decode cX6_filtered 109 = .ok (.iload_n 3, 1) := by decide +kernel
theorem dX6_filtered_110 : decode cX6_filtered 110 = .ok (.iaload, 1) := by decide +kernel
theorem dX6_filtered_111 : decode cX6_filtered 111 = .ok (.iconst 4, 1) := by decide +kernel
theorem dX6_filtered_112 : decode cX6_filtered 112 = .ok (.if_icmp .ne 22, 3) := by decide +kernel
theorem dX6_filtered_115 : decode cX6_filtered 115 = .ok (.iload 4, 2) := by decide +kernel
theorem dX6_filtered_117 : decode cX6_filtered 117 = .ok (.invokestatic 161, 3) := by decide +kernel
theorem dX6_filtered_120 : decode cX6_filtered 120 = .ok (.iload 5, 2) := by decide +kernel
theorem dX6_filtered_122 : decode cX6_filtered 122 = .ok (.invokestatic 161, 3) := by decide +kernel
theorem dX6_filtered_125 : decode cX6_filtered 125 = .ok (.invokestatic 158, 3) := by decide +kernel
theorem dX6_filtered_128 : decode cX6_filtered 128 = .ok (.invokestatic 161, 3) := by decide +kernel
theorem dX6_filtered_131 : decode cX6_filtered 131 = .ok (.goto 8, 3) := by decide +kernel
theorem dX6_filtered_134 : decode cX6_filtered 134 = .ok (.iload 4, 2) := by decide +kernel
theorem dX6_filtered_136 : decode cX6_filtered 136 = .ok (.invokestatic 161, 3) := by decide +kernel
theorem dX6_filtered_139 : decode cX6_filtered 139 = .ok (.iastore, 1) := by decide +kernel
theorem dX6_filtered_140 : decode cX6_filtered 140 = .ok (.iinc 3 1, 3) := by decide +kernel
theorem dX6_filtered_143 : decode cX6_filtered 143 = .ok (.goto (-141), 3) := by decide +kernel
theorem dX6_filtered_146 : decode cX6_filtered 146 = .ok (.aload_n 0, 1) := by decide +kernel
theorem dX6_filtered_147 : decode cX6_filtered 147 = .ok (.getfield 59, 3) := by decide +kernel
theorem dX6_filtered_150 : decode cX6_filtered 150 = .ok (.iload_n 1, 1) := by decide +kernel
theorem dX6_filtered_151 : decode cX6_filtered 151 = .ok (.iaload, 1) := by decide +kernel
theorem dX6_filtered_152 : decode cX6_filtered 152 = .ok (.ireturn, 1) := by decide +kernel
set_option maxRecDepth 20000 in
theorem ggX6_holds_X6_isMaster : GoodIn wsX6_holds wsX6_isMaster := goodIn_r _ [5, 6, 7, 4, 8] (by decide +kernel) (by decide +kernel)
set_option maxRecDepth 20000 in
theorem gX6_holds_X6_isMaster : GoodIn wsX6_holds (va_wsS RX6 120 yX6_isMaster wsX6_isMaster) := goodIn_app (goodIn_of _ (by decide +kernel)) ggX6_holds_X6_isMaster
set_option maxRecDepth 20000 in
theorem ggX6_holds_X6_isFilter : GoodIn wsX6_holds wsX6_isFilter := goodIn_r _ [12, 13, 6, 7, 4, 8, 87, 88, 89, 90, 91, 92, 93, 94, 95, 96, 97, 98, 99, 100, 101, 102, 103, 104, 105, 106, 107, 108, 109, 110, 111, 112] (by decide +kernel) (by decide +kernel)
set_option maxRecDepth 20000 in
theorem gX6_holds_X6_isFilter : GoodIn wsX6_holds (wsV RX6 152 RX6 yX6_isFilter wsX6_isFilter) := goodIn_app (goodIn_of _ (by decide +kernel)) ggX6_holds_X6_isFilter
set_option maxRecDepth 20000 in
theorem ggX6_holds_X6_isHere : GoodIn wsX6_holds wsX6_isHere := goodIn_r _ [17, 18, 2, 3, 4, 5, 6, 7, 8, 19, 20, 21, 22, 23, 24, 25, 26, 27, 28, 29, 30, 31, 32, 33, 34, 35, 36, 37, 38, 39, 40, 41, 42, 43, 44, 45, 46, 47, 48, 49, 50, 51, 52, 53, 54, 55, 56, 57, 58, 59, 60, 61, 62, 63, 64, 65, 66, 67, 68, 87, 88, 89, 90, 91, 92, 93, 94, 95, 96, 97, 98, 99, 100, 101, 102, 103, 104, 105, 106, 107, 108, 109, 110, 111, 112] (by decide +kernel) (by decide +kernel)
set_option maxRecDepth 20000 in
theorem gX6_holds_X6_isHere : GoodIn wsX6_holds (wsV RX6 127 RX6 yX6_isHere wsX6_isHere) := goodIn_app (goodIn_of _ (by decide +kernel)) ggX6_holds_X6_isHere
set_option maxRecDepth 20000 in
theorem ggX6_holds_X6_filtered : GoodIn wsX6_holds wsX6_filtered := goodIn_r _ [72, 73, 74, 75, 76, 77, 78, 79, 4, 80, 26, 60, 61, 62, 63, 64, 25, 81, 82, 83, 84, 85, 86, 87, 88, 89, 90, 91, 92, 93, 94, 95, 96, 97, 98, 99, 100, 101, 102, 103, 104, 105, 106, 107, 108, 109, 110, 111, 112] (by decide +kernel) (by decide +kernel)
set_option maxRecDepth 20000 in
theorem gX6_holds_X6_filtered : GoodIn wsX6_holds (wsV RX6 164 RX6 yX6_filtered wsX6_filtered) := goodIn_app (goodIn_of _ (by decide +kernel)) ggX6_holds_X6_filtered
theorem dX6_holds_0 : decode cX6_holds 0 = .ok (.aload_n 0, 1) := by decide +kernel
theorem dX6_holds_1 : decode cX6_holds 1 = .ok (.iload_n 1, 1) := by decide +kernel
theorem dX6_holds_2 : decode cX6_holds 2 = .ok (.invokestatic 120, 3) := by decide +kernel
theorem dX6_holds_5 : decode cX6_holds 5 = .ok (.ifCond .eq 24, 3) := by decide +kernel
theorem dX6_holds_8 : decode cX6_holds 8 = .ok (.aload_n 0, 1) := by decide +kernel
theorem dX6_holds_9 : decode cX6_holds 9 = .ok (.iload_n 2, 1) := by decide +kernel
theorem dX6_holds_10 : decode cX6_holds 10 = .ok (.invokevirtual 152, 3) := by decide +kernel
theorem dX6_holds_13 : decode cX6_holds 13 = .ok (.ifCond .eq 16, 3) := by decide +kernel
theorem dX6_holds_16 : decode cX6_holds 16 = .ok (.aload_n 0, 1) := by decide +kernel
theorem dX6_holds_17 : decode cX6_holds 17 = .ok (.iload_n 1, 1) := by decide +kernel
theorem dX6_holds_18 : decode cX6_holds 18 = .ok (.iload_n 3, 1) := by decide +kernel
theorem dX6_holds_19 : decode cX6_holds 19 = .ok (.invokevirtual 127, 3) := by decide +kernel
theorem dX6_holds_22 : decode cX6_holds 22 = .ok (.ifCond .eq 7, 3) := by decide +kernel
theorem dX6_holds_25 : decode cX6_holds 25 = .ok (.iconst 0, 1) := by decide +kernel
theorem dX6_holds_26 : decode cX6_holds 26 = .ok (.goto 4, 3) := by decide +kernel
theorem dX6_holds_29 : decode cX6_holds 29 = .ok (.iconst 1, 1) := by decide +kernel
theorem dX6_holds_30 : decode cX6_holds 30 = .ok (.putfield 80, 3) := by decide +kernel
theorem dX6_holds_33 : decode cX6_holds 33 = .ok (.aload_n 0, 1) := by decide +kernel
theorem dX6_holds_34 : decode cX6_holds 34 = .ok (.getfield 80, 3) := by decide +kernel
theorem dX6_holds_37 : decode cX6_holds 37 = .ok (.ifCond .le 7, 3) := by decide +kernel
theorem dX6_holds_40 : decode cX6_holds 40 = .ok (.iconst 0, 1) := by decide +kernel
theorem dX6_holds_41 : decode cX6_holds 41 = .ok (.goto 9, 3) := by decide +kernel
theorem dX6_holds_44 : decode cX6_holds 44 = .ok (.aload_n 0, 1) := by decide +kernel
theorem dX6_holds_45 : decode cX6_holds 45 = .ok (.iload_n 2, 1) := by decide +kernel
theorem dX6_holds_46 : decode cX6_holds 46 = .ok (.iload_n 3, 1) := by decide +kernel
theorem dX6_holds_47 : decode cX6_holds 47 = .ok (.invokevirtual 164, 3) := by decide +kernel
theorem dX6_holds_50 : decode cX6_holds 50 = .ok (.ireturn, 1) := by decide +kernel
theorem dX6_counted_0 : decode cX6_counted 0 = .ok (.iload_n 2, 1) := by decide +kernel
theorem dX6_counted_1 : decode cX6_counted 1 = .ok (.istore_n 3, 1) := by decide +kernel
theorem dX6_counted_2 : decode cX6_counted 2 = .ok (.iload_n 3, 1) := by decide +kernel
theorem dX6_counted_3 : decode cX6_counted 3 = .ok (.ifCond .lt 27, 3) := by decide +kernel
theorem dX6_counted_6 : decode cX6_counted 6 = .ok (.aload_n 0, 1) := by decide +kernel
theorem dX6_counted_7 : decode cX6_counted 7 = .ok (.getfield 43, 3) := by decide +kernel
theorem dX6_counted_10 : decode cX6_counted 10 = .ok (.bipush 42, 2) := by decide +kernel
theorem dX6_counted_12 : decode cX6_counted 12 = .ok (.iload_n 1, 1) := by decide +kernel
theorem dX6_counted_13 : decode cX6_counted 13 = .ok (.imul, 1) := by decide +kernel
theorem dX6_counted_14 : decode cX6_counted 14 = .ok (.iload_n 3, 1) := by decide +kernel
theorem dX6_counted_15 : decode cX6_counted 15 = .ok (.iadd, 1) := by decide +kernel
theorem dX6_counted_16 : decode cX6_counted 16 = .ok (.iaload, 1) := by decide +kernel
theorem dX6_counted_17 : decode cX6_counted 17 = .ok (.ifCond .ge 13, 3) := by decide +kernel
theorem dX6_counted_20 : decode cX6_counted 20 = .ok (.aload_n 0, 1) := by decide +kernel
theorem dX6_counted_21 : decode cX6_counted 21 = .ok (.getfield 65, 3) := by decide +kernel
theorem dX6_counted_24 : decode cX6_counted 24 = .ok (.iload_n 3, 1) := by decide +kernel
theorem dX6_counted_25 : decode cX6_counted 25 = .ok (.iaload, 1) := by decide +kernel
theorem dX6_counted_26 : decode cX6_counted 26 = .ok (.istore_n 3, 1) := by decide +kernel
theorem dX6_counted_27 : decode cX6_counted 27 = .ok (.goto (-25), 3) := by decide +kernel
theorem dX6_counted_30 : decode cX6_counted 30 = .ok (.iload_n 3, 1) := by decide +kernel
theorem dX6_counted_31 : decode cX6_counted 31 = .ok (.ifCond .ge 7, 3) := by decide +kernel
theorem dX6_counted_34 : decode cX6_counted 34 = .ok (.iconst 0, 1) := by decide +kernel
theorem dX6_counted_35 : decode cX6_counted 35 = .ok (.goto 14, 3) := by decide +kernel
theorem dX6_counted_38 : decode cX6_counted 38 = .ok (.aload_n 0, 1) := by decide +kernel
theorem dX6_counted_39 : decode cX6_counted 39 = .ok (.getfield 43, 3) := by decide +kernel
theorem dX6_counted_42 : decode cX6_counted 42 = .ok (.bipush 42, 2) := by decide +kernel
theorem dX6_counted_44 : decode cX6_counted 44 = .ok (.iload_n 1, 1) := by decide +kernel
theorem dX6_counted_45 : decode cX6_counted 45 = .ok (.imul, 1) := by decide +kernel
theorem dX6_counted_46 : decode cX6_counted 46 = .ok (.iload_n 3, 1) := by decide +kernel
theorem dX6_counted_47 : decode cX6_counted 47 = .ok (.iadd, 1) := by decide +kernel
theorem dX6_counted_48 : decode cX6_counted 48 = .ok (.iaload, 1) := by decide +kernel
theorem dX6_counted_49 : decode cX6_counted 49 = .ok (.ireturn, 1) := by decide +kernel
theorem dX6_rank_0 : decode cX6_rank 0 = .ok (.aload_n 0, 1) := by decide +kernel
theorem dX6_rank_1 : decode cX6_rank 1 = .ok (.getfield 68, 3) := by decide +kernel
theorem dX6_rank_4 : decode cX6_rank 4 = .ok (.iload_n 1, 1) := by decide +kernel
theorem dX6_rank_5 : decode cX6_rank 5 = .ok (.iaload, 1) := by decide +kernel
theorem dX6_rank_6 : decode cX6_rank 6 = .ok (.ifCond .ge 10, 3) := by decide +kernel
theorem dX6_rank_9 : decode cX6_rank 9 = .ok (.bipush 100, 2) := by decide +kernel
theorem dX6_rank_11 : decode cX6_rank 11 = .ok (.iload_n 1, 1) := by decide +kernel
theorem dX6_rank_12 : decode cX6_rank 12 = .ok (.iadd, 1) := by decide +kernel
theorem dX6_rank_13 : decode cX6_rank 13 = .ok (.goto 9, 3) := by decide +kernel
theorem dX6_rank_16 : decode cX6_rank 16 = .ok (.aload_n 0, 1) := by decide +kernel
theorem dX6_rank_17 : decode cX6_rank 17 = .ok (.getfield 68, 3) := by decide +kernel
theorem dX6_rank_20 : decode cX6_rank 20 = .ok (.iload_n 1, 1) := by decide +kernel
theorem dX6_rank_21 : decode cX6_rank 21 = .ok (.iaload, 1) := by decide +kernel
theorem dX6_rank_22 : decode cX6_rank 22 = .ok (.ireturn, 1) := by decide +kernel
set_option maxRecDepth 20000 in
theorem ggX6_behind_X6_rank : GoodIn wsX6_behind wsX6_rank := goodIn_r _ [8, 9, 10, 11, 12, 13, 14, 15, 16, 17, 18, 19, 20, 21, 22, 23, 24, 25, 26, 27, 28, 29, 30, 31, 32, 33, 34, 35] (by decide +kernel) (by decide +kernel)
set_option maxRecDepth 20000 in
theorem gX6_behind_X6_rank : GoodIn wsX6_behind (wsV RX6 167 RX6 yX6_rank wsX6_rank) := goodIn_app (goodIn_of _ (by decide +kernel)) ggX6_behind_X6_rank
theorem dX6_behind_0 : decode cX6_behind 0 = .ok (.iconst (-1), 1) := by decide +kernel
theorem dX6_behind_1 : decode cX6_behind 1 = .ok (.istore_n 3, 1) := by decide +kernel
theorem dX6_behind_2 : decode cX6_behind 2 = .ok (.iconst 0, 1) := by decide +kernel
theorem dX6_behind_3 : decode cX6_behind 3 = .ok (.istore 4, 2) := by decide +kernel
theorem dX6_behind_5 : decode cX6_behind 5 = .ok (.iload 4, 2) := by decide +kernel
theorem dX6_behind_7 : decode cX6_behind 7 = .ok (.bipush 42, 2) := by decide +kernel
theorem dX6_behind_9 : decode cX6_behind 9 = .ok (.if_icmp .ge 87, 3) := by decide +kernel
theorem dX6_behind_12 : decode cX6_behind 12 = .ok (.aload_n 0, 1) := by decide +kernel
theorem dX6_behind_13 : decode cX6_behind 13 = .ok (.getfield 62, 3) := by decide +kernel
theorem dX6_behind_16 : decode cX6_behind 16 = .ok (.iload 4, 2) := by decide +kernel
theorem dX6_behind_18 : decode cX6_behind 18 = .ok (.baload, 1) := by decide +kernel
theorem dX6_behind_19 : decode cX6_behind 19 = .ok (.ifCond .eq 38, 3) := by decide +kernel
theorem dX6_behind_22 : decode cX6_behind 22 = .ok (.aload_n 0, 1) := by decide +kernel
theorem dX6_behind_23 : decode cX6_behind 23 = .ok (.getfield 65, 3) := by decide +kernel
theorem dX6_behind_26 : decode cX6_behind 26 = .ok (.iload 4, 2) := by decide +kernel
theorem dX6_behind_28 : decode cX6_behind 28 = .ok (.iaload, 1) := by decide +kernel
theorem dX6_behind_29 : decode cX6_behind 29 = .ok (.iload_n 1, 1) := by decide +kernel
theorem dX6_behind_30 : decode cX6_behind 30 = .ok (.if_icmp .ne 27, 3) := by decide +kernel
theorem dX6_behind_33 : decode cX6_behind 33 = .ok (.aload_n 0, 1) := by decide +kernel
theorem dX6_behind_34 : decode cX6_behind 34 = .ok (.getfield 46, 3) := by decide +kernel
theorem dX6_behind_37 : decode cX6_behind 37 = .ok (.iload 4, 2) := by decide +kernel
theorem dX6_behind_39 : decode cX6_behind 39 = .ok (.baload, 1) := by decide +kernel
theorem dX6_behind_40 : decode cX6_behind 40 = .ok (.ifCond .ne 17, 3) := by decide +kernel
theorem dX6_behind_43 : decode cX6_behind 43 = .ok (.aload_n 0, 1) := by decide +kernel
theorem dX6_behind_44 : decode cX6_behind 44 = .ok (.iload 4, 2) := by decide +kernel
theorem dX6_behind_46 : decode cX6_behind 46 = .ok (.invokevirtual 167, 3) := by decide +kernel
theorem dX6_behind_49 : decode cX6_behind 49 = .ok (.iload_n 2, 1) := by decide +kernel
theorem dX6_behind_50 : decode cX6_behind 50 = .ok (.if_icmp .le 7, 3) := by decide +kernel
theorem dX6_behind_53 : decode cX6_behind 53 = .ok (.iconst 1, 1) := by decide +kernel
theorem dX6_behind_54 : decode cX6_behind 54 = .ok (.goto 4, 3) := by decide +kernel
theorem dX6_behind_57 : decode cX6_behind 57 = .ok (.iconst 0, 1) := by decide +kernel
theorem dX6_behind_58 : decode cX6_behind 58 = .ok (.istore 5, 2) := by decide +kernel
theorem dX6_behind_60 : decode cX6_behind 60 = .ok (.iload 5, 2) := by decide +kernel
theorem dX6_behind_62 : decode cX6_behind 62 = .ok (.ifCond .eq 26, 3) := by decide +kernel
theorem dX6_behind_65 : decode cX6_behind 65 = .ok (.iload_n 3, 1) := by decide +kernel
theorem dX6_behind_66 : decode cX6_behind 66 = .ok (.ifCond .lt 17, 3) := by decide +kernel
theorem dX6_behind_69 : decode cX6_behind 69 = .ok (.aload_n 0, 1) := by decide +kernel
theorem dX6_behind_70 : decode cX6_behind 70 = .ok (.iload 4, 2) := by decide +kernel
theorem dX6_behind_72 : decode cX6_behind 72 = .ok (.invokevirtual 167, 3) := by decide +kernel
theorem dX6_behind_75 : decode cX6_behind 75 = .ok (.aload_n 0, 1) := by decide +kernel
theorem dX6_behind_76 : decode cX6_behind 76 = .ok (.iload_n 3, 1) := by decide +kernel
theorem dX6_behind_77 : decode cX6_behind 77 = .ok (.invokevirtual 167, 3) := by decide +kernel
theorem dX6_behind_80 : decode cX6_behind 80 = .ok (.if_icmp .ge 8, 3) := by decide +kernel
theorem dX6_behind_83 : decode cX6_behind 83 = .ok (.iload 4, 2) := by decide +kernel
theorem dX6_behind_85 : decode cX6_behind 85 = .ok (.goto 4, 3) := by decide +kernel
theorem dX6_behind_88 : decode cX6_behind 88 = .ok (.iload_n 3, 1) := by decide +kernel
theorem dX6_behind_89 : decode cX6_behind 89 = .ok (.istore_n 3, 1) := by decide +kernel
theorem dX6_behind_90 : decode cX6_behind 90 = .ok (.iinc 4 1, 3) := by decide +kernel
theorem dX6_behind_93 : decode cX6_behind 93 = .ok (.goto (-88), 3) := by decide +kernel
theorem dX6_behind_96 : decode cX6_behind 96 = .ok (.iload_n 3, 1) := by decide +kernel
theorem dX6_behind_97 : decode cX6_behind 97 = .ok (.ireturn, 1) := by decide +kernel
set_option maxRecDepth 20000 in
theorem ggX6_goes_X6_behind : GoodIn wsX6_goes wsX6_behind := goodIn_r _ [6, 7, 1, 8, 9, 10, 11, 5, 12, 13, 14, 15, 16, 17, 18, 19, 20, 21, 22, 23, 24, 25, 26, 27, 28, 29, 30, 31, 32, 33, 34, 35, 36, 37, 38, 39] (by decide +kernel) (by decide +kernel)
set_option maxRecDepth 20000 in
theorem gX6_goes_X6_behind : GoodIn wsX6_goes (wsV RX6 170 RX6 yX6_behind wsX6_behind) := goodIn_app (goodIn_of _ (by decide +kernel)) ggX6_goes_X6_behind
set_option maxRecDepth 20000 in
theorem ggX6_goes_X6_rank : GoodIn wsX6_goes wsX6_rank := goodIn_r _ [12, 13, 14, 15, 16, 17, 18, 19, 20, 21, 22, 23, 24, 25, 26, 27, 28, 29, 30, 31, 32, 33, 34, 35, 36, 37, 38, 39] (by decide +kernel) (by decide +kernel)
set_option maxRecDepth 20000 in
theorem gX6_goes_X6_rank : GoodIn wsX6_goes (wsV RX6 167 RX6 yX6_rank wsX6_rank) := goodIn_app (goodIn_of _ (by decide +kernel)) ggX6_goes_X6_rank
theorem dX6_goes_0 : decode cX6_goes 0 = .ok (.iload_n 3, 1) := by decide +kernel
theorem dX6_goes_1 : decode cX6_goes 1 = .ok (.iconst 2, 1) := by decide +kernel
theorem dX6_goes_2 : decode cX6_goes 2 = .ok (.if_icmp .eq 13, 3) := by decide +kernel
theorem dX6_goes_5 : decode cX6_goes 5 = .ok (.iload_n 1, 1) := by decide +kernel
theorem dX6_goes_6 : decode cX6_goes 6 = .ok (.iload_n 2, 1) := by decide +kernel
theorem dX6_goes_7 : decode cX6_goes 7 = .ok (.if_icmp .ne 17, 3) := by decide +kernel
theorem dX6_goes_10 : decode cX6_goes 10 = .ok (.iload_n 3, 1) := by decide +kernel
theorem dX6_goes_11 : decode cX6_goes 11 = .ok (.iconst 1, 1) := by decide +kernel
theorem dX6_goes_12 : decode cX6_goes 12 = .ok (.if_icmp .ne 12, 3) := by decide +kernel
theorem dX6_goes_15 : decode cX6_goes 15 = .ok (.aload_n 0, 1) := by decide +kernel
theorem dX6_goes_16 : decode cX6_goes 16 = .ok (.iload_n 1, 1) := by decide +kernel
theorem dX6_goes_17 : decode cX6_goes 17 = .ok (.iconst (-1), 1) := by decide +kernel
theorem dX6_goes_18 : decode cX6_goes 18 = .ok (.invokevirtual 170, 3) := by decide +kernel
theorem dX6_goes_21 : decode cX6_goes 21 = .ok (.goto 4, 3) := by decide +kernel
theorem dX6_goes_24 : decode cX6_goes 24 = .ok (.iconst (-1), 1) := by decide +kernel
theorem dX6_goes_25 : decode cX6_goes 25 = .ok (.istore 4, 2) := by decide +kernel
theorem dX6_goes_27 : decode cX6_goes 27 = .ok (.iload_n 1, 1) := by decide +kernel
theorem dX6_goes_28 : decode cX6_goes 28 = .ok (.istore 5, 2) := by decide +kernel
theorem dX6_goes_30 : decode cX6_goes 30 = .ok (.iload 4, 2) := by decide +kernel
theorem dX6_goes_32 : decode cX6_goes 32 = .ok (.ifCond .ge 40, 3) := by decide +kernel
theorem dX6_goes_35 : decode cX6_goes 35 = .ok (.iload 5, 2) := by decide +kernel
theorem dX6_goes_37 : decode cX6_goes 37 = .ok (.iload_n 2, 1) := by decide +kernel
theorem dX6_goes_38 : decode cX6_goes 38 = .ok (.if_icmp .eq 34, 3) := by decide +kernel
theorem dX6_goes_41 : decode cX6_goes 41 = .ok (.aload_n 0, 1) := by decide +kernel
theorem dX6_goes_42 : decode cX6_goes 42 = .ok (.aload_n 0, 1) := by decide +kernel
theorem dX6_goes_43 : decode cX6_goes 43 = .ok (.getfield 65, 3) := by decide +kernel
theorem dX6_goes_46 : decode cX6_goes 46 = .ok (.iload 5, 2) := by decide +kernel
theorem dX6_goes_48 : decode cX6_goes 48 = .ok (.iaload, 1) := by decide +kernel
theorem dX6_goes_49 : decode cX6_goes 49 = .ok (.aload_n 0, 1) := by decide +kernel
theorem dX6_goes_50 : decode cX6_goes 50 = .ok (.iload 5, 2) := by decide +kernel
theorem dX6_goes_52 : decode cX6_goes 52 = .ok (.invokevirtual 167, 3) := by decide +kernel
theorem dX6_goes_55 : decode cX6_goes 55 = .ok (.invokevirtual 170, 3) := by decide +kernel
theorem dX6_goes_58 : decode cX6_goes 58 = .ok (.istore 4, 2) := by decide +kernel
theorem dX6_goes_60 : decode cX6_goes 60 = .ok (.aload_n 0, 1) := by decide +kernel
theorem dX6_goes_61 : decode cX6_goes 61 = .ok (.getfield 65, 3) := by decide +kernel
theorem dX6_goes_64 : decode cX6_goes 64 = .ok (.iload 5, 2) := by decide +kernel
theorem dX6_goes_66 : decode cX6_goes 66 = .ok (.iaload, 1) := by decide +kernel
theorem dX6_goes_67 : decode cX6_goes 67 = .ok (.istore 5, 2) := by decide +kernel
theorem dX6_goes_69 : decode cX6_goes 69 = .ok (.goto (-39), 3) := by decide +kernel
theorem dX6_goes_72 : decode cX6_goes 72 = .ok (.iload 4, 2) := by decide +kernel
theorem dX6_goes_74 : decode cX6_goes 74 = .ok (.ireturn, 1) := by decide +kernel
set_option maxRecDepth 20000 in
theorem ggX6_search_X6_isHere : GoodIn wsX6_search wsX6_isHere := goodIn_r _ [6, 7, 8, 9, 5, 10, 11, 12, 13, 14, 15, 16, 17, 18, 19, 20, 21, 22, 23, 24, 25, 26, 27, 28, 29, 30, 31, 32, 33, 34, 35, 36, 37, 38, 39, 40, 41, 42, 43, 44, 45, 46, 47, 48, 49, 50, 51, 52, 53, 54, 55, 56, 57, 58, 59, 60, 61, 62, 63, 105, 106, 107, 108, 109, 110, 111, 112, 113, 114, 115, 116, 117, 118, 119, 120, 121, 122, 123, 124, 125, 126, 127, 128, 129, 130] (by decide +kernel) (by decide +kernel)
set_option maxRecDepth 20000 in
theorem gX6_search_X6_isHere : GoodIn wsX6_search (wsV RX6 127 RX6 yX6_isHere wsX6_isHere) := goodIn_app (goodIn_of _ (by decide +kernel)) ggX6_search_X6_isHere
set_option maxRecDepth 20000 in
theorem ggX6_search_X6_isIn : GoodIn wsX6_search wsX6_isIn := goodIn_r _ [13] (by decide +kernel) (by decide +kernel)
set_option maxRecDepth 20000 in
theorem gX6_search_X6_isIn : GoodIn wsX6_search (va_wsS RX6 84 yX6_isIn wsX6_isIn) := goodIn_app (goodIn_of _ (by decide +kernel)) ggX6_search_X6_isIn
set_option maxRecDepth 20000 in
theorem ggX6_search_X6_isFilter : GoodIn wsX6_search wsX6_isFilter := goodIn_r _ [67, 68, 11, 12, 5, 13, 105, 106, 107, 108, 109, 110, 111, 112, 113, 114, 115, 116, 117, 118, 119, 120, 121, 122, 123, 124, 125, 126, 127, 128, 129, 130] (by decide +kernel) (by decide +kernel)
set_option maxRecDepth 20000 in
theorem gX6_search_X6_isFilter : GoodIn wsX6_search (wsV RX6 152 RX6 yX6_isFilter wsX6_isFilter) := goodIn_app (goodIn_of _ (by decide +kernel)) ggX6_search_X6_isFilter
set_option maxRecDepth 20000 in
theorem ggX6_search_X6_goes : GoodIn wsX6_search wsX6_goes := goodIn_r _ [72, 18, 73, 74, 75, 5, 76, 7, 77, 78, 79, 80, 81, 19, 105, 106, 107, 108, 109, 110, 111, 112, 113, 114, 115, 116, 117, 118, 119, 120, 121, 122, 123, 124, 125, 126, 127, 128, 129, 130] (by decide +kernel) (by decide +kernel)
set_option maxRecDepth 20000 in
theorem gX6_search_X6_goes : GoodIn wsX6_search (wsV RX6 173 RX6 yX6_goes wsX6_goes) := goodIn_app (goodIn_of _ (by decide +kernel)) ggX6_search_X6_goes
set_option maxRecDepth 20000 in
theorem ggX6_search_X6_filtered : GoodIn wsX6_search wsX6_filtered := goodIn_r _ [85, 86, 87, 88, 89, 90, 91, 92, 5, 93, 21, 55, 56, 57, 58, 59, 20, 94, 95, 96, 97, 98, 99, 105, 106, 107, 108, 109, 110, 111, 112, 113, 114, 115, 116, 117, 118, 119, 120, 121, 122, 123, 124, 125, 126, 127, 128, 129, 130] (by decide +kernel) (by decide +kernel)
set_option maxRecDepth 20000 in
theorem gX6_search_X6_filtered : GoodIn wsX6_search (wsV RX6 164 RX6 yX6_filtered wsX6_filtered) := goodIn_app (goodIn_of _ (by decide +kernel)) ggX6_search_X6_filtered
set_option maxRecDepth 20000 in
theorem ggX6_search_X6_counted : GoodIn wsX6_search wsX6_counted := goodIn_r _ [103, 104, 18, 105, 106, 107, 108, 109, 110, 111, 112, 113, 114, 115, 116, 117, 118, 119, 120, 121, 122, 123, 124, 125, 126, 127, 128, 129, 130] (by decide +kernel) (by decide +kernel)
set_option maxRecDepth 20000 in
theorem gX6_search_X6_counted : GoodIn wsX6_search (wsV RX6 176 RX6 yX6_counted wsX6_counted) := goodIn_app (goodIn_of _ (by decide +kernel)) ggX6_search_X6_counted
theorem dX6_search_0 : decode cX6_search 0 = .ok (.aload_n 0, 1) := by decide +kernel
theorem dX6_search_1 : decode cX6_search 1 = .ok (.iload_n 1, 1) := by decide +kernel
theorem dX6_search_2 : decode cX6_search 2 = .ok (.iload_n 3, 1) := by decide +kernel
theorem dX6_search_3 : decode cX6_search 3 = .ok (.invokevirtual 127, 3) := by decide +kernel
theorem dX6_search_6 : decode cX6_search 6 = .ok (.ifCond .eq 30, 3) := by decide +kernel
theorem dX6_search_9 : decode cX6_search 9 = .ok (.iload_n 2, 1) := by decide +kernel
theorem dX6_search_10 : decode cX6_search 10 = .ok (.iconst 0, 1) := by decide +kernel
theorem dX6_search_11 : decode cX6_search 11 = .ok (.iconst 2, 1) := by decide +kernel
theorem dX6_search_12 : decode cX6_search 12 = .ok (.invokestatic 84, 3) := by decide +kernel
theorem dX6_search_15 : decode cX6_search 15 = .ok (.ifCond .eq 21, 3) := by decide +kernel
theorem dX6_search_18 : decode cX6_search 18 = .ok (.aload_n 0, 1) := by decide +kernel
theorem dX6_search_19 : decode cX6_search 19 = .ok (.iload 5, 2) := by decide +kernel
theorem dX6_search_21 : decode cX6_search 21 = .ok (.invokevirtual 152, 3) := by decide +kernel
theorem dX6_search_24 : decode cX6_search 24 = .ok (.ifCond .eq 12, 3) := by decide +kernel
theorem dX6_search_27 : decode cX6_search 27 = .ok (.iload 6, 2) := by decide +kernel
theorem dX6_search_29 : decode cX6_search 29 = .ok (.ifCond .lt 7, 3) := by decide +kernel
theorem dX6_search_32 : decode cX6_search 32 = .ok (.iconst 1, 1) := by decide +kernel
theorem dX6_search_33 : decode cX6_search 33 = .ok (.goto 4, 3) := by decide +kernel
theorem dX6_search_36 : decode cX6_search 36 = .ok (.iconst 0, 1) := by decide +kernel
theorem dX6_search_37 : decode cX6_search 37 = .ok (.istore 7, 2) := by decide +kernel
theorem dX6_search_39 : decode cX6_search 39 = .ok (.aload_n 0, 1) := by decide +kernel
theorem dX6_search_40 : decode cX6_search 40 = .ok (.iload 7, 2) := by decide +kernel
theorem dX6_search_42 : decode cX6_search 42 = .ok (.ifCond .ne 7, 3) := by decide +kernel
theorem dX6_search_45 : decode cX6_search 45 = .ok (.iconst 1, 1) := by decide +kernel
theorem dX6_search_46 : decode cX6_search 46 = .ok (.goto 18, 3) := by decide +kernel
theorem dX6_search_49 : decode cX6_search 49 = .ok (.iload 4, 2) := by decide +kernel
theorem dX6_search_51 : decode cX6_search 51 = .ok (.iconst 0, 1) := by decide +kernel
theorem dX6_search_52 : decode cX6_search 52 = .ok (.iconst 2, 1) := by decide +kernel
theorem dX6_search_53 : decode cX6_search 53 = .ok (.invokestatic 84, 3) := by decide +kernel
theorem dX6_search_56 : decode cX6_search 56 = .ok (.ifCond .eq 7, 3) := by decide +kernel
theorem dX6_search_59 : decode cX6_search 59 = .ok (.iconst 0, 1) := by decide +kernel
theorem dX6_search_60 : decode cX6_search 60 = .ok (.goto 4, 3) := by decide +kernel
theorem dX6_search_63 : decode cX6_search 63 = .ok (.iconst 2, 1) := by decide +kernel
theorem dX6_search_64 : decode cX6_search 64 = .ok (.putfield 80, 3) := by decide +kernel
theorem dX6_search_67 : decode cX6_search 67 = .ok (.aload_n 0, 1) := by decide +kernel
theorem dX6_search_68 : decode cX6_search 68 = .ok (.getfield 80, 3) := by decide +kernel
theorem dX6_search_71 : decode cX6_search 71 = .ok (.ifCond .le 5, 3) := by decide +kernel
theorem dX6_search_74 : decode cX6_search 74 = .ok (.iconst 0, 1) := by decide +kernel
theorem dX6_search_75 : decode cX6_search 75 = .ok (.ireturn, 1) := by decide +kernel
theorem dX6_search_76 : decode cX6_search 76 = .ok (.iconst 0, 1) := by decide +kernel
theorem dX6_search_77 : decode cX6_search 77 = .ok (.istore 8, 2) := by decide +kernel
theorem dX6_search_79 : decode cX6_search 79 = .ok (.iload 4, 2) := by decide +kernel
theorem dX6_search_81 : decode cX6_search 81 = .ok (.iconst 1, 1) := by decide +kernel
theorem dX6_search_82 : decode cX6_search 82 = .ok (.if_icmp .ne 13, 3) := by decide +kernel
theorem dX6_search_85 : decode cX6_search 85 = .ok (.aload_n 0, 1) := by decide +kernel
theorem dX6_search_86 : decode cX6_search 86 = .ok (.iload_n 3, 1) := by decide +kernel
theorem dX6_search_87 : decode cX6_search 87 = .ok (.iload_n 3, 1) := by decide +kernel
theorem dX6_search_88 : decode cX6_search 88 = .ok (.iconst 1, 1) := by decide +kernel
theorem dX6_search_89 : decode cX6_search 89 = .ok (.invokevirtual 173, 3) := by decide +kernel
theorem dX6_search_92 : decode cX6_search 92 = .ok (.goto 4, 3) := by decide +kernel
theorem dX6_search_95 : decode cX6_search 95 = .ok (.iload_n 3, 1) := by decide +kernel
theorem dX6_search_96 : decode cX6_search 96 = .ok (.istore 9, 2) := by decide +kernel
theorem dX6_search_98 : decode cX6_search 98 = .ok (.iload 9, 2) := by decide +kernel
theorem dX6_search_100 : decode cX6_search 100 = .ok (.ifCond .lt 85, 3) := by decide +kernel
theorem dX6_search_103 : decode cX6_search 103 = .ok (.aload_n 0, 1) := by decide +kernel
theorem dX6_search_104 : decode cX6_search 104 = .ok (.iload 5, 2) := by decide +kernel
theorem dX6_search_106 : decode cX6_search 106 = .ok (.iload 9, 2) := by decide +kernel
theorem dX6_search_108 : decode cX6_search 108 = .ok (.invokevirtual 164, 3) := by decide +kernel
theorem dX6_search_111 : decode cX6_search 111 = .ok (.iconst 1, 1) := by decide +kernel
theorem dX6_search_112 : decode cX6_search 112 = .ok (.if_icmp .ne 17, 3) := by decide +kernel
theorem dX6_search_115 : decode cX6_search 115 = .ok (.aload_n 0, 1) := by decide +kernel
theorem dX6_search_116 : decode cX6_search 116 = .ok (.iload_n 2, 1) := by decide +kernel
theorem dX6_search_117 : decode cX6_search 117 = .ok (.iload 9, 2) := by decide +kernel
theorem dX6_search_119 : decode cX6_search 119 = .ok (.invokevirtual 176, 3) := by decide +kernel
theorem dX6_search_122 : decode cX6_search 122 = .ok (.ifCond .ne 7, 3) := by decide +kernel
theorem dX6_search_125 : decode cX6_search 125 = .ok (.iconst 1, 1) := by decide +kernel
theorem dX6_search_126 : decode cX6_search 126 = .ok (.goto 4, 3) := by decide +kernel
theorem dX6_search_129 : decode cX6_search 129 = .ok (.iconst 0, 1) := by decide +kernel
theorem dX6_search_130 : decode cX6_search 130 = .ok (.istore 10, 2) := by decide +kernel
theorem dX6_search_132 : decode cX6_search 132 = .ok (.iload 10, 2) := by decide +kernel
theorem dX6_search_134 : decode cX6_search 134 = .ok (.ifCond .eq 13, 3) := by decide +kernel
theorem dX6_search_137 : decode cX6_search 137 = .ok (.iload 8, 2) := by decide +kernel
theorem dX6_search_139 : decode cX6_search 139 = .ok (.iload 6, 2) := by decide +kernel
theorem dX6_search_141 : decode cX6_search 141 = .ok (.if_icmp .ne 6, 3) := by decide +kernel
theorem dX6_search_144 : decode cX6_search 144 = .ok (.iload 9, 2) := by decide +kernel
theorem dX6_search_146 : decode cX6_search 146 = .ok (.ireturn, 1) := by decide +kernel
theorem dX6_search_147 : decode cX6_search 147 = .ok (.iload 8, 2) := by decide +kernel
theorem dX6_search_149 : decode cX6_search 149 = .ok (.iload 10, 2) := by decide +kernel
theorem dX6_search_151 : decode cX6_search 151 = .ok (.ifCond .eq 7, 3) := by decide +kernel
theorem dX6_search_154 : decode cX6_search 154 = .ok (.iconst 1, 1) := by decide +kernel
theorem dX6_search_155 : decode cX6_search 155 = .ok (.goto 4, 3) := by decide +kernel
theorem dX6_search_158 : decode cX6_search 158 = .ok (.iconst 0, 1) := by decide +kernel
theorem dX6_search_159 : decode cX6_search 159 = .ok (.iadd, 1) := by decide +kernel
theorem dX6_search_160 : decode cX6_search 160 = .ok (.istore 8, 2) := by decide +kernel
theorem dX6_search_162 : decode cX6_search 162 = .ok (.iload 4, 2) := by decide +kernel
theorem dX6_search_164 : decode cX6_search 164 = .ok (.ifCond .ne 7, 3) := by decide +kernel
theorem dX6_search_167 : decode cX6_search 167 = .ok (.iconst (-1), 1) := by decide +kernel
theorem dX6_search_168 : decode cX6_search 168 = .ok (.goto 12, 3) := by decide +kernel
theorem dX6_search_171 : decode cX6_search 171 = .ok (.aload_n 0, 1) := by decide +kernel
theorem dX6_search_172 : decode cX6_search 172 = .ok (.iload 9, 2) := by decide +kernel
theorem dX6_search_174 : decode cX6_search 174 = .ok (.iload_n 3, 1) := by decide +kernel
theorem dX6_search_175 : decode cX6_search 175 = .ok (.iload 4, 2) := by decide +kernel
theorem dX6_search_177 : decode cX6_search 177 = .ok (.invokevirtual 173, 3) := by decide +kernel
theorem dX6_search_180 : decode cX6_search 180 = .ok (.istore 9, 2) := by decide +kernel
theorem dX6_search_182 : decode cX6_search 182 = .ok (.goto (-84), 3) := by decide +kernel
theorem dX6_search_185 : decode cX6_search 185 = .ok (.iconst (-1), 1) := by decide +kernel
theorem dX6_search_186 : decode cX6_search 186 = .ok (.ireturn, 1) := by decide +kernel
end
section
/-! BASE: states as maps (cell, place) to ints; the judgement XW: W at a world, a list of locals, a stack -/
abbrev St : Type := Nat → Nat → Int32
def up (S : St) (k : Nat) (f : Nat → Int32) : St := fun j => bif Nat.beq j k then f else S j
/-- the links between nest mates -/
def nwM : List (String × Nat × MethodName × String) := [(RX5, 18, yX2_init, RX5), (RX5, 44, yX1_init, RX5), (RX0, 24, yX5_put, RX5), (RX1, 28, yX5_put, RX5), (RX1, 36, yX5_at, RX5), (RX2, 34, yX5_put, RX5), (RX2, 38, yX5_at, RX5), (RX3, 25, yX5_put, RX5), (RX3, 29, yX5_at, RX5), (RX4, 58, yX5_at, RX5), (RX4, 82, yX5_put, RX5)]
def nwF : List (String × Nat × String × String × String × String) := [(RX5, 126, RX4, "size", "I", RX5), (RX5, 164, RX1, "count", "I", RX5), (RX5, 57, RX2, "count", "I", RX5), (RX4, 86, RX2, "entries", "[I", RX5), (RX4, 89, RX2, "targets", "[I", RX5), (RX4, 92, RX2, "contents", "[I", RX5), (RX4, 95, RX2, "kinds", "[I", RX5), (RX4, 98, RX2, "classesOfAdded", "[I", RX5)]
def NW (U : State) : Prop := (∀ q ∈ nwM, va_Nw (.methodLinkNest q.1 q.2.1 q.2.2.1 q.2.2.2) U) ∧ (∀ q ∈ nwF, va_Nw (.fieldLinkNest q.1 q.2.1 q.2.2.1 q.2.2.2.1 q.2.2.2.2.1 q.2.2.2.2.2) U)
theorem NW.same {u U : State} (h : u.vm = U.vm) (hN : NW u) : NW U := ⟨fun q hq => va_Nw.same rfl h (hN.1 q hq), fun q hq => va_Nw.same rfl h (hN.2 q hq)⟩
theorem NW.warm {s U : State} (hW : s.WarmedH U.vm) (hN : NW s) : NW U := ⟨fun q hq => va_Nw.warmM hW (hN.1 q hq), fun q hq => va_Nw.warmF hW (hN.2 q hq)⟩
/-- array types of the worlds -/
abbrev t3 (cI cZ cJ : ClassId) : List (ClassId × FieldType) := [(cI, .int), (cZ, .boolean), (cJ, .long)]
/-- a method's start: the world w -/
def PC (D : va_G) (tys : List (ClassId × FieldType)) (av : List Value) (w : va_W) (sz : Nat) : Array Value → State → Prop := va_Pc av (fun U => U.heap.size = sz ∧ va_P D vwCl w U.heap ∧ va_K D vwCl tys U ∧ va_D (fun _ => True) w ∧ NW U)
/-- what a method leaves: the world w' -/
def BE (D : va_G) (tys : List (ClassId × FieldType)) (A : Nat → Prop) (w' : va_W) (t : State) : Prop := va_P D vwCl w' t.heap ∧ va_K D vwCl tys t ∧ va_D A w'
def QI (D : va_G) (tys : List (ClassId × FieldType)) (w w' : va_W) (sz : Nat) (v : Int32) : Array Value → State → Outcome → State → Prop := va_Qi (S := Unit) (fun r _ => r = v) (fun _ t => BE D tys (va_A w sz) w' t) (va_A w sz)
def QV (D : va_G) (tys : List (ClassId × FieldType)) (w w' : va_W) (sz : Nat) : Array Value → State → Outcome → State → Prop := va_Qv (S := Unit) (fun _ => True) (fun _ t => BE D tys (va_A w sz) w' t) (va_A w sz)
def QR (D : va_G) (tys : List (ClassId × FieldType)) (w w' : va_W) (sz : Nat) (v : Nat) : Array Value → State → Outcome → State → Prop := va_Qr (S := Unit) (fun _ => True) (fun _ a t => a = v ∧ BE D tys (va_A w sz) w' t) (va_A w sz)
theorem PC.blind {D : va_G} {tys : List (ClassId × FieldType)} {av : List Value} {w : va_W} {sz : Nat} : FrameBlind (PC D tys av w sz) := fun a U g mk q => by
  obtain ⟨h1, h2, h3, h4, h5, h6⟩ := q
  exact ⟨h1, h2, h3, va_K.moved (u := U) (U := U.calling g mk a) (Vm.Alike.refl U.vm) h4, h5, NW.same (u := U) (U := U.calling g mk a) rfl h6⟩
theorem va_D.mono {A : Nat → Prop} {w w' : va_W} (h : va_D A w) (e : w'.map Prod.fst = w.map Prod.fst) : va_D A w' := by
  have key : ∀ (k : Nat) (q : Nat × va_E), w'[k]? = some q → ∃ q', w[k]? = some q' ∧ q'.1 = q.1 := by
    intro k q hk
    have h1 : (w'.map Prod.fst)[k]? = some q.1 := by rw [List.getElem?_map, hk]; rfl
    rw [e, List.getElem?_map] at h1
    cases hw : w[k]? with
    | none => rw [hw] at h1; cases h1
    | some q' => rw [hw] at h1; exact ⟨q', rfl, Option.some.inj h1⟩
  refine ⟨fun i j p q hi hj hpq => ?_, fun k q hk => ?_⟩
  · obtain ⟨p', h1, h2⟩ := key i p hi
    obtain ⟨q', h3, h4⟩ := key j q hj
    exact h.1 i j p' q' h1 h3 (by rw [h2, h4]; exact hpq)
  · obtain ⟨q', h1, h2⟩ := key k q hk
    rw [← h2]
    exact h.2 k q' h1
/-- locals: a list by rising places -/
def lvIns (i : Nat) (v : Value) : List (Nat × Value) → List (Nat × Value)
  | [] => [(i, v)]
  | a :: l => bif Nat.blt i a.1 then (i, v) :: a :: l else a :: lvIns i v l
theorem lvIns_mem {i : Nat} {v : Value} {q : Nat × Value} : ∀ {l : List (Nat × Value)}, q ∈ lvIns i v l → q = (i, v) ∨ q ∈ l
  | [], h => by
    rw [lvIns] at h
    exact Or.inl (List.mem_singleton.mp h)
  | a :: l, h => by
    rw [lvIns] at h
    cases hb : Nat.blt i a.1 with
    | true =>
      rw [hb, cond_true] at h
      rcases List.mem_cons.mp h with h | h
      · exact Or.inl h
      · exact Or.inr h
    | false =>
      rw [hb, cond_false] at h
      rcases List.mem_cons.mp h with h | h
      · exact Or.inr (by rw [h]; exact List.mem_cons_self)
      · rcases lvIns_mem h with h | h
        · exact Or.inl h
        · exact Or.inr (List.mem_cons_of_mem _ h)
def lvUp (i : Nat) (v : Value) (l : List (Nat × Value)) : List (Nat × Value) := lvIns i v (l.filter (fun q => !(q.1 == i) && !(q.1 + 1 == i && q.2.category == 2)))
theorem lv_of_up {ls : Array Slot} {n i : Nat} {v : Value} {l l' : List (Nat × Value)} (h : lv_has ls n ((i, v) :: l.filter (fun q => !(q.1 == i) && !(q.1 + 1 == i && q.2.category == 2)))) (e : lvUp i v l = l') : lv_has ls n l' := by
  subst e
  refine ⟨h.1, h.2.1, fun q hq => h.2.2 q ?_⟩
  rcases lvIns_mem hq with h1 | h1
  · rw [h1]; exact List.mem_cons_self
  · exact List.mem_cons_of_mem _ h1
/-- what is fixed in a method's body -/
def XC (p : Program) (R : Room) (s : State) (m : MethodId) (args : Array Value) (meth : Method) (c : Code) (cc : ByteArray) (n : Nat) (ret : Option FieldType) (own : String) (Ts : List Cond) (D : va_G) (tys : List (ClassId × FieldType)) : Prop :=
  p.tables.exec = Jvm.exec ∧ c.code = cc ∧ c.maxLocals = n ∧ s.vm.findClass own = some m.cls ∧ (∀ w ∈ Ts, w.before args s = true) ∧ va_K D vwCl tys s ∧ NW s ∧ meth.sig.returnType = ret ∧ meth.locks = false
def XW (p : Program) (l : Launch) (e : Env) (R : Room) (s : State) (m : MethodId) (args : Array Value) (below : List Frame) (meth : Method) (c : Code) (D : va_G) (w0 : va_W) (n : Nat) (Q : State → Prop) (w : va_W) (k j pc : Nat) (lv : List (Nat × Value)) (st : List Value) : Prop :=
  ∀ (H : Heap) (locs : List Loc) (ls : Array Slot), va_P D vwCl w H → va_D (va_A w0 s.heap.size) w → va_S (va_A w0 s.heap.size) s.heap H locs → lv_has ls n lv → W p l e R s m args below meth c H locs k j Q (F0 m pc ls st)
section XR
variable {p : Program} {l : Launch} {e : Env} {R : Room} {s : State} {m : MethodId} {args : Array Value} {below : List Frame} {meth : Method} {c : Code} {cc : ByteArray} {n : Nat} {ret : Option FieldType} {own : String} {Ts : List Cond} {D : va_G} {tys : List (ClassId × FieldType)} {w0 : va_W} {Q : State → Prop} {w : va_W} {k j pc : Nat} {lv : List (Nat × Value)} {st : List Value}
theorem x_iconst (C : XC p R s m args meth c cc n ret own Ts D tys) {i : Int} {v : Int32} (hd : decode cc pc = .ok (.iconst i, 1)) (hv : Int32.ofInt i = v) (K : XW p l e R s m args below meth c D w0 n Q w k j (pc + 1) lv (.int v :: st)) : XW p l e R s m args below meth c D w0 n Q w k j pc lv st :=
  fun H locs ls hP hD hS hl => lv_iconst C.1 C.2.1 hd hv (K H locs ls hP hD hS hl)
theorem x_bipush (C : XC p R s m args meth c cc n ret own Ts D tys) {i : Int} {v : Int32} (hd : decode cc pc = .ok (.bipush i, 2)) (hv : (Int8.ofInt i).toInt32 = v) (K : XW p l e R s m args below meth c D w0 n Q w k j (pc + 2) lv (.int v :: st)) : XW p l e R s m args below meth c D w0 n Q w k j pc lv st :=
  fun H locs ls hP hD hS hl => lv_bipush C.1 C.2.1 hd hv (K H locs ls hP hD hS hl)
theorem x_sipush (C : XC p R s m args meth c cc n ret own Ts D tys) {i : Int} {v : Int32} (hd : decode cc pc = .ok (.sipush i, 3)) (hv : (Int16.ofInt i).toInt32 = v) (K : XW p l e R s m args below meth c D w0 n Q w k j (pc + 3) lv (.int v :: st)) : XW p l e R s m args below meth c D w0 n Q w k j pc lv st :=
  fun H locs ls hP hD hS hl => lv_sipush C.1 C.2.1 hd hv (K H locs ls hP hD hS hl)
theorem x_iload (C : XC p R s m args meth c cc n ret own Ts D tys) {i : Nat} {v : Int32} (q : Nat) (hd : decode cc pc = .ok (.iload i, 2)) (hl0 : lv[q]? = some (i, .int v)) (K : XW p l e R s m args below meth c D w0 n Q w k j (pc + 2) lv (.int v :: st)) : XW p l e R s m args below meth c D w0 n Q w k j pc lv st :=
  fun H locs ls hP hD hS hl => lv_iload C.1 C.2.1 hd (lv_at hl q hl0) (K H locs ls hP hD hS hl)
theorem x_iload_n (C : XC p R s m args meth c cc n ret own Ts D tys) {f : Fin 4} {v : Int32} (q : Nat) (hd : decode cc pc = .ok (.iload_n f, 1)) (hl0 : lv[q]? = some ((f : Nat), .int v)) (K : XW p l e R s m args below meth c D w0 n Q w k j (pc + 1) lv (.int v :: st)) : XW p l e R s m args below meth c D w0 n Q w k j pc lv st :=
  fun H locs ls hP hD hS hl => lv_iload_n C.1 C.2.1 hd rfl (lv_at hl q hl0) (K H locs ls hP hD hS hl)
theorem x_istore (C : XC p R s m args meth c cc n ret own Ts D tys) {i : Nat} {v : Int32} {lv' : List (Nat × Value)} (hd : decode cc pc = .ok (.istore i, 2)) (hn : i < n) (hl0 : lvUp i (.int v) lv = lv') (K : XW p l e R s m args below meth c D w0 n Q w k j (pc + 2) lv' st) : XW p l e R s m args below meth c D w0 n Q w k j pc lv (.int v :: st) :=
  fun H locs _ hP hD hS hl => lv_istore C.1 C.2.1 hd hl hn rfl (fun ls hl' => K H locs ls hP hD hS (lv_of_up hl' hl0))
theorem x_istore_n (C : XC p R s m args meth c cc n ret own Ts D tys) {f : Fin 4} {v : Int32} {lv' : List (Nat × Value)} (hd : decode cc pc = .ok (.istore_n f, 1)) (hn : (f : Nat) < n) (hl0 : lvUp (f : Nat) (.int v) lv = lv') (K : XW p l e R s m args below meth c D w0 n Q w k j (pc + 1) lv' st) : XW p l e R s m args below meth c D w0 n Q w k j pc lv (.int v :: st) :=
  fun H locs _ hP hD hS hl => lv_istore_n C.1 C.2.1 hd rfl hl hn rfl (fun ls hl' => K H locs ls hP hD hS (lv_of_up hl' hl0))
theorem x_aload (C : XC p R s m args meth c cc n ret own Ts D tys) {i : Nat} {v : Nat} (q : Nat) (hd : decode cc pc = .ok (.aload i, 2)) (hl0 : lv[q]? = some (i, .ref v)) (K : XW p l e R s m args below meth c D w0 n Q w k j (pc + 2) lv (.ref v :: st)) : XW p l e R s m args below meth c D w0 n Q w k j pc lv st :=
  fun H locs ls hP hD hS hl => lv_aload C.1 C.2.1 hd (lv_at hl q hl0) (K H locs ls hP hD hS hl)
theorem x_aload_n (C : XC p R s m args meth c cc n ret own Ts D tys) {f : Fin 4} {v : Nat} (q : Nat) (hd : decode cc pc = .ok (.aload_n f, 1)) (hl0 : lv[q]? = some ((f : Nat), .ref v)) (K : XW p l e R s m args below meth c D w0 n Q w k j (pc + 1) lv (.ref v :: st)) : XW p l e R s m args below meth c D w0 n Q w k j pc lv st :=
  fun H locs ls hP hD hS hl => lv_aload_n C.1 C.2.1 hd rfl (lv_at hl q hl0) (K H locs ls hP hD hS hl)
theorem x_astore (C : XC p R s m args meth c cc n ret own Ts D tys) {i : Nat} {v : Nat} {lv' : List (Nat × Value)} (hd : decode cc pc = .ok (.astore i, 2)) (hn : i < n) (hl0 : lvUp i (.ref v) lv = lv') (K : XW p l e R s m args below meth c D w0 n Q w k j (pc + 2) lv' st) : XW p l e R s m args below meth c D w0 n Q w k j pc lv (.ref v :: st) :=
  fun H locs _ hP hD hS hl => lv_astore C.1 C.2.1 hd hl hn rfl (fun ls hl' => K H locs ls hP hD hS (lv_of_up hl' hl0))
theorem x_astore_n (C : XC p R s m args meth c cc n ret own Ts D tys) {f : Fin 4} {v : Nat} {lv' : List (Nat × Value)} (hd : decode cc pc = .ok (.astore_n f, 1)) (hn : (f : Nat) < n) (hl0 : lvUp (f : Nat) (.ref v) lv = lv') (K : XW p l e R s m args below meth c D w0 n Q w k j (pc + 1) lv' st) : XW p l e R s m args below meth c D w0 n Q w k j pc lv (.ref v :: st) :=
  fun H locs _ hP hD hS hl => lv_astore_n C.1 C.2.1 hd rfl hl hn rfl (fun ls hl' => K H locs ls hP hD hS (lv_of_up hl' hl0))
theorem x_iinc (C : XC p R s m args meth c cc n ret own Ts D tys) {i : Nat} {z : Int} {x v : Int32} {lv' : List (Nat × Value)} (q : Nat) (hd : decode cc pc = .ok (.iinc i z, 3)) (hq : lv[q]? = some (i, .int x)) (hv : x + Int32.ofInt z = v) (hn : i < n) (hl0 : lvUp i (.int v) lv = lv') (K : XW p l e R s m args below meth c D w0 n Q w k j (pc + 3) lv' st) : XW p l e R s m args below meth c D w0 n Q w k j pc lv st :=
  fun H locs _ hP hD hS hl => lv_iinc C.1 C.2.1 hd hl hq hv hn rfl (fun ls hl' => K H locs ls hP hD hS (lv_of_up hl' hl0))
theorem x_iadd (C : XC p R s m args meth c cc n ret own Ts D tys) {x y : Int32} (hd : decode cc pc = .ok (.iadd, 1))  (K : XW p l e R s m args below meth c D w0 n Q w k j (pc + 1) lv (.int (x + y) :: st)) : XW p l e R s m args below meth c D w0 n Q w k j pc lv (.int y :: .int x :: st) :=
  fun H locs ls hP hD hS hl => lv_iadd C.1 C.2.1 hd  (K H locs ls hP hD hS hl)
theorem x_isub (C : XC p R s m args meth c cc n ret own Ts D tys) {x y : Int32} (hd : decode cc pc = .ok (.isub, 1))  (K : XW p l e R s m args below meth c D w0 n Q w k j (pc + 1) lv (.int (x - y) :: st)) : XW p l e R s m args below meth c D w0 n Q w k j pc lv (.int y :: .int x :: st) :=
  fun H locs ls hP hD hS hl => lv_isub C.1 C.2.1 hd  (K H locs ls hP hD hS hl)
theorem x_imul (C : XC p R s m args meth c cc n ret own Ts D tys) {x y : Int32} (hd : decode cc pc = .ok (.imul, 1))  (K : XW p l e R s m args below meth c D w0 n Q w k j (pc + 1) lv (.int (x * y) :: st)) : XW p l e R s m args below meth c D w0 n Q w k j pc lv (.int y :: .int x :: st) :=
  fun H locs ls hP hD hS hl => lv_imul C.1 C.2.1 hd  (K H locs ls hP hD hS hl)
theorem x_iand (C : XC p R s m args meth c cc n ret own Ts D tys) {x y : Int32} (hd : decode cc pc = .ok (.iand, 1))  (K : XW p l e R s m args below meth c D w0 n Q w k j (pc + 1) lv (.int (x &&& y) :: st)) : XW p l e R s m args below meth c D w0 n Q w k j pc lv (.int y :: .int x :: st) :=
  fun H locs ls hP hD hS hl => lv_iand C.1 C.2.1 hd  (K H locs ls hP hD hS hl)
theorem x_ior (C : XC p R s m args meth c cc n ret own Ts D tys) {x y : Int32} (hd : decode cc pc = .ok (.ior, 1))  (K : XW p l e R s m args below meth c D w0 n Q w k j (pc + 1) lv (.int (x ||| y) :: st)) : XW p l e R s m args below meth c D w0 n Q w k j pc lv (.int y :: .int x :: st) :=
  fun H locs ls hP hD hS hl => lv_ior C.1 C.2.1 hd  (K H locs ls hP hD hS hl)
theorem x_ishl (C : XC p R s m args meth c cc n ret own Ts D tys) {x y : Int32} (hd : decode cc pc = .ok (.ishl, 1))  (K : XW p l e R s m args below meth c D w0 n Q w k j (pc + 1) lv (.int (x <<< (y &&& 31)) :: st)) : XW p l e R s m args below meth c D w0 n Q w k j pc lv (.int y :: .int x :: st) :=
  fun H locs ls hP hD hS hl => lv_ishl C.1 C.2.1 hd  (K H locs ls hP hD hS hl)
theorem x_ishr (C : XC p R s m args meth c cc n ret own Ts D tys) {x y : Int32} (hd : decode cc pc = .ok (.ishr, 1))  (K : XW p l e R s m args below meth c D w0 n Q w k j (pc + 1) lv (.int (x >>> (y &&& 31)) :: st)) : XW p l e R s m args below meth c D w0 n Q w k j pc lv (.int y :: .int x :: st) :=
  fun H locs ls hP hD hS hl => lv_ishr C.1 C.2.1 hd  (K H locs ls hP hD hS hl)
theorem x_idiv (C : XC p R s m args meth c cc n ret own Ts D tys) {x y : Int32} (hd : decode cc pc = .ok (.idiv, 1)) (hne : ¬ y = 0) (K : XW p l e R s m args below meth c D w0 n Q w k j (pc + 1) lv (.int (x / y) :: st)) : XW p l e R s m args below meth c D w0 n Q w k j pc lv (.int y :: .int x :: st) :=
  fun H locs ls hP hD hS hl => lv_idiv C.1 C.2.1 hd hne (K H locs ls hP hD hS hl)
theorem x_irem (C : XC p R s m args meth c cc n ret own Ts D tys) {x y : Int32} (hd : decode cc pc = .ok (.irem, 1)) (hne : ¬ y = 0) (K : XW p l e R s m args below meth c D w0 n Q w k j (pc + 1) lv (.int (x - x / y * y) :: st)) : XW p l e R s m args below meth c D w0 n Q w k j pc lv (.int y :: .int x :: st) :=
  fun H locs ls hP hD hS hl => lv_irem C.1 C.2.1 hd hne (K H locs ls hP hD hS hl)
theorem x_dup (C : XC p R s m args meth c cc n ret own Ts D tys) {v : Value} (hd : decode cc pc = .ok (.dup, 1)) (hc : v.category = 1) (K : XW p l e R s m args below meth c D w0 n Q w k j (pc + 1) lv (v :: v :: st)) : XW p l e R s m args below meth c D w0 n Q w k j pc lv (v :: st) :=
  fun H locs ls hP hD hS hl => lv_dup C.1 C.2.1 hd hc (K H locs ls hP hD hS hl)
theorem x_dup2 (C : XC p R s m args meth c cc n ret own Ts D tys) {v u : Value} (hd : decode cc pc = .ok (.dup2, 1)) (hc : v.category = 1) (hc2 : u.category = 1) (K : XW p l e R s m args below meth c D w0 n Q w k j (pc + 1) lv (v :: u :: v :: u :: st)) : XW p l e R s m args below meth c D w0 n Q w k j pc lv (v :: u :: st) :=
  fun H locs ls hP hD hS hl => lv_dup2_11 C.1 C.2.1 hd hc hc2 (K H locs ls hP hD hS hl)
theorem x_pop (C : XC p R s m args meth c cc n ret own Ts D tys) {v : Value} (hd : decode cc pc = .ok (.pop, 1)) (hc : v.category = 1) (K : XW p l e R s m args below meth c D w0 n Q w k j (pc + 1) lv st) : XW p l e R s m args below meth c D w0 n Q w k j pc lv (v :: st) :=
  fun H locs ls hP hD hS hl => lv_pop C.1 C.2.1 hd hc (K H locs ls hP hD hS hl)
theorem x_i2l (C : XC p R s m args meth c cc n ret own Ts D tys) {x : Int32} (hd : decode cc pc = .ok (.i2l, 1))  (K : XW p l e R s m args below meth c D w0 n Q w k j (pc + 1) lv (.long x.toInt64 :: st)) : XW p l e R s m args below meth c D w0 n Q w k j pc lv (.int x :: st) :=
  fun H locs ls hP hD hS hl => lv_i2l C.1 C.2.1 hd rfl (K H locs ls hP hD hS hl)
theorem x_lconst (C : XC p R s m args meth c cc n ret own Ts D tys) {f : Fin 2} {v : Int64} (hd : decode cc pc = .ok (.lconst f, 1)) (hv : Int64.ofNat (f : Nat) = v) (K : XW p l e R s m args below meth c D w0 n Q w k j (pc + 1) lv (.long v :: st)) : XW p l e R s m args below meth c D w0 n Q w k j pc lv st :=
  fun H locs ls hP hD hS hl => lv_lconst C.1 C.2.1 hd hv (K H locs ls hP hD hS hl)
theorem x_lcmp (C : XC p R s m args meth c cc n ret own Ts D tys) {x y : Int64} (hd : decode cc pc = .ok (.lcmp, 1))  (K : XW p l e R s m args below meth c D w0 n Q w k j (pc + 1) lv (.int (lg_cmp x y) :: st)) : XW p l e R s m args below meth c D w0 n Q w k j pc lv (.long y :: .long x :: st) :=
  fun H locs ls hP hD hS hl => W.lcmp C.1 C.2.1 hd  (K H locs ls hP hD hS hl)
theorem x_goto (C : XC p R s m args meth c cc n ret own Ts D tys) {o : Int} {t : Nat} (hd : decode cc pc = .ok (.goto o, 3)) (ht : (pc : Int) + o = (t : Int)) (K : XW p l e R s m args below meth c D w0 n Q w k j t lv st) : XW p l e R s m args below meth c D w0 n Q w k j pc lv st :=
  fun H locs ls hP hD hS hl => lv_goto C.1 C.2.1 hd ht (K H locs ls hP hD hS hl)
theorem x_if_eq (C : XC p R s m args meth c cc n ret own Ts D tys) {x : Int32} {o : Int} {t : Nat} (hd : decode cc pc = .ok (.ifCond .eq o, 3)) (ht : (pc : Int) + o = (t : Int)) (K1 : x = 0 → XW p l e R s m args below meth c D w0 n Q w k j t lv st) (K2 : ¬ x = 0 → XW p l e R s m args below meth c D w0 n Q w k j (pc + 3) lv st) : XW p l e R s m args below meth c D w0 n Q w k j pc lv (.int x :: st) :=
  fun H locs ls hP hD hS hl => lv_if_eq C.1 C.2.1 hd ht (fun q => K1 q H locs ls hP hD hS hl) (fun q => K2 q H locs ls hP hD hS hl)
theorem x_if_ne (C : XC p R s m args meth c cc n ret own Ts D tys) {x : Int32} {o : Int} {t : Nat} (hd : decode cc pc = .ok (.ifCond .ne o, 3)) (ht : (pc : Int) + o = (t : Int)) (K1 : ¬ x = 0 → XW p l e R s m args below meth c D w0 n Q w k j t lv st) (K2 : x = 0 → XW p l e R s m args below meth c D w0 n Q w k j (pc + 3) lv st) : XW p l e R s m args below meth c D w0 n Q w k j pc lv (.int x :: st) :=
  fun H locs ls hP hD hS hl => lv_if_ne C.1 C.2.1 hd ht (fun q => K1 q H locs ls hP hD hS hl) (fun q => K2 q H locs ls hP hD hS hl)
theorem x_if_lt (C : XC p R s m args meth c cc n ret own Ts D tys) {x : Int32} {o : Int} {t : Nat} (hd : decode cc pc = .ok (.ifCond .lt o, 3)) (ht : (pc : Int) + o = (t : Int)) (K1 : x < 0 → XW p l e R s m args below meth c D w0 n Q w k j t lv st) (K2 : ¬ x < 0 → XW p l e R s m args below meth c D w0 n Q w k j (pc + 3) lv st) : XW p l e R s m args below meth c D w0 n Q w k j pc lv (.int x :: st) :=
  fun H locs ls hP hD hS hl => lv_if_lt C.1 C.2.1 hd ht (fun q => K1 q H locs ls hP hD hS hl) (fun q => K2 q H locs ls hP hD hS hl)
theorem x_if_ge (C : XC p R s m args meth c cc n ret own Ts D tys) {x : Int32} {o : Int} {t : Nat} (hd : decode cc pc = .ok (.ifCond .ge o, 3)) (ht : (pc : Int) + o = (t : Int)) (K1 : 0 ≤ x → XW p l e R s m args below meth c D w0 n Q w k j t lv st) (K2 : ¬ 0 ≤ x → XW p l e R s m args below meth c D w0 n Q w k j (pc + 3) lv st) : XW p l e R s m args below meth c D w0 n Q w k j pc lv (.int x :: st) :=
  fun H locs ls hP hD hS hl => lv_if_ge C.1 C.2.1 hd ht (fun q => K1 q H locs ls hP hD hS hl) (fun q => K2 q H locs ls hP hD hS hl)
theorem x_if_gt (C : XC p R s m args meth c cc n ret own Ts D tys) {x : Int32} {o : Int} {t : Nat} (hd : decode cc pc = .ok (.ifCond .gt o, 3)) (ht : (pc : Int) + o = (t : Int)) (K1 : 0 < x → XW p l e R s m args below meth c D w0 n Q w k j t lv st) (K2 : ¬ 0 < x → XW p l e R s m args below meth c D w0 n Q w k j (pc + 3) lv st) : XW p l e R s m args below meth c D w0 n Q w k j pc lv (.int x :: st) :=
  fun H locs ls hP hD hS hl => lv_if_gt C.1 C.2.1 hd ht (fun q => K1 q H locs ls hP hD hS hl) (fun q => K2 q H locs ls hP hD hS hl)
theorem x_if_le (C : XC p R s m args meth c cc n ret own Ts D tys) {x : Int32} {o : Int} {t : Nat} (hd : decode cc pc = .ok (.ifCond .le o, 3)) (ht : (pc : Int) + o = (t : Int)) (K1 : x ≤ 0 → XW p l e R s m args below meth c D w0 n Q w k j t lv st) (K2 : ¬ x ≤ 0 → XW p l e R s m args below meth c D w0 n Q w k j (pc + 3) lv st) : XW p l e R s m args below meth c D w0 n Q w k j pc lv (.int x :: st) :=
  fun H locs ls hP hD hS hl => lv_if_le C.1 C.2.1 hd ht (fun q => K1 q H locs ls hP hD hS hl) (fun q => K2 q H locs ls hP hD hS hl)
theorem x_icmp_eq (C : XC p R s m args meth c cc n ret own Ts D tys) {x y : Int32} {o : Int} {t : Nat} (hd : decode cc pc = .ok (.if_icmp .eq o, 3)) (ht : (pc : Int) + o = (t : Int)) (K1 : x = y → XW p l e R s m args below meth c D w0 n Q w k j t lv st) (K2 : ¬ x = y → XW p l e R s m args below meth c D w0 n Q w k j (pc + 3) lv st) : XW p l e R s m args below meth c D w0 n Q w k j pc lv (.int y :: .int x :: st) :=
  fun H locs ls hP hD hS hl => lv_icmp_eq C.1 C.2.1 hd ht (fun q => K1 q H locs ls hP hD hS hl) (fun q => K2 q H locs ls hP hD hS hl)
theorem x_icmp_ne (C : XC p R s m args meth c cc n ret own Ts D tys) {x y : Int32} {o : Int} {t : Nat} (hd : decode cc pc = .ok (.if_icmp .ne o, 3)) (ht : (pc : Int) + o = (t : Int)) (K1 : ¬ x = y → XW p l e R s m args below meth c D w0 n Q w k j t lv st) (K2 : x = y → XW p l e R s m args below meth c D w0 n Q w k j (pc + 3) lv st) : XW p l e R s m args below meth c D w0 n Q w k j pc lv (.int y :: .int x :: st) :=
  fun H locs ls hP hD hS hl => lv_icmp_ne C.1 C.2.1 hd ht (fun q => K1 q H locs ls hP hD hS hl) (fun q => K2 q H locs ls hP hD hS hl)
theorem x_icmp_lt (C : XC p R s m args meth c cc n ret own Ts D tys) {x y : Int32} {o : Int} {t : Nat} (hd : decode cc pc = .ok (.if_icmp .lt o, 3)) (ht : (pc : Int) + o = (t : Int)) (K1 : x < y → XW p l e R s m args below meth c D w0 n Q w k j t lv st) (K2 : ¬ x < y → XW p l e R s m args below meth c D w0 n Q w k j (pc + 3) lv st) : XW p l e R s m args below meth c D w0 n Q w k j pc lv (.int y :: .int x :: st) :=
  fun H locs ls hP hD hS hl => lv_icmp_lt C.1 C.2.1 hd ht (fun q => K1 q H locs ls hP hD hS hl) (fun q => K2 q H locs ls hP hD hS hl)
theorem x_icmp_ge (C : XC p R s m args meth c cc n ret own Ts D tys) {x y : Int32} {o : Int} {t : Nat} (hd : decode cc pc = .ok (.if_icmp .ge o, 3)) (ht : (pc : Int) + o = (t : Int)) (K1 : y ≤ x → XW p l e R s m args below meth c D w0 n Q w k j t lv st) (K2 : ¬ y ≤ x → XW p l e R s m args below meth c D w0 n Q w k j (pc + 3) lv st) : XW p l e R s m args below meth c D w0 n Q w k j pc lv (.int y :: .int x :: st) :=
  fun H locs ls hP hD hS hl => lv_icmp_ge C.1 C.2.1 hd ht (fun q => K1 q H locs ls hP hD hS hl) (fun q => K2 q H locs ls hP hD hS hl)
theorem x_icmp_gt (C : XC p R s m args meth c cc n ret own Ts D tys) {x y : Int32} {o : Int} {t : Nat} (hd : decode cc pc = .ok (.if_icmp .gt o, 3)) (ht : (pc : Int) + o = (t : Int)) (K1 : y < x → XW p l e R s m args below meth c D w0 n Q w k j t lv st) (K2 : ¬ y < x → XW p l e R s m args below meth c D w0 n Q w k j (pc + 3) lv st) : XW p l e R s m args below meth c D w0 n Q w k j pc lv (.int y :: .int x :: st) :=
  fun H locs ls hP hD hS hl => lv_icmp_gt C.1 C.2.1 hd ht (fun q => K1 q H locs ls hP hD hS hl) (fun q => K2 q H locs ls hP hD hS hl)
theorem x_icmp_le (C : XC p R s m args meth c cc n ret own Ts D tys) {x y : Int32} {o : Int} {t : Nat} (hd : decode cc pc = .ok (.if_icmp .le o, 3)) (ht : (pc : Int) + o = (t : Int)) (K1 : x ≤ y → XW p l e R s m args below meth c D w0 n Q w k j t lv st) (K2 : ¬ x ≤ y → XW p l e R s m args below meth c D w0 n Q w k j (pc + 3) lv st) : XW p l e R s m args below meth c D w0 n Q w k j pc lv (.int y :: .int x :: st) :=
  fun H locs ls hP hD hS hl => lv_icmp_le C.1 C.2.1 hd ht (fun q => K1 q H locs ls hP hD hS hl) (fun q => K2 q H locs ls hP hD hS hl)
theorem x_get (C : XC p R s m args meth c cc n ret own Ts D tys) {a ci N index : Nat} {R' : String} {T : u_T} {fs : List Value} {v : Value} (q0 f : Nat) (hw : w[q0]? = some (a, .inr (ci, fs))) (hc : vwCl[ci]? = some (R', T, N)) (hf : f < N) (hv : fs[f]? = some v) (hdecl : (T f).1 = R') (hin : ∀ z ∈ u_ws R' T N, z ∈ Ts) (hlk : Cond.fieldLink own index R' (T f).2.1 (T f).2.2.1 ∈ Ts) (hd : decode cc pc = .ok (.getfield index, 3)) (K : XW p l e R s m args below meth c D w0 n Q w k j (pc + 3) lv (v :: st)) : XW p l e R s m args below meth c D w0 n Q w k j pc lv (.ref a :: st) :=
  fun H locs ls hP hD hS hl => va_get (D := D) (ci := ci) (v := v) (C := R') (T := T) (N := N) C.1 C.2.1 C.2.2.2.2.1 hin C.2.2.2.1 C.2.2.2.2.2.1 hP q0 hw hc f hf (C.2.2.2.2.1 _ hlk) (fun x h9 => by rw [hdecl] at h9; exact h9) hv hd (K H locs ls hP hD hS hl)
theorem x_getN (C : XC p R s m args meth c cc n ret own Ts D tys) {a ci N index : Nat} {R' : String} {T : u_T} {fs : List Value} {v : Value} (q0 f : Nat) (hw : w[q0]? = some (a, .inr (ci, fs))) (hc : vwCl[ci]? = some (R', T, N)) (hf : f < N) (hv : fs[f]? = some v) (hdecl : (T f).1 = R') (hin : ∀ z ∈ u_ws R' T N, z ∈ Ts) (hlk : (own, index, R', (T f).2.1, (T f).2.2.1, RX5) ∈ nwF) (hd : decode cc pc = .ok (.getfield index, 3)) (K : XW p l e R s m args below meth c D w0 n Q w k j (pc + 3) lv (v :: st)) : XW p l e R s m args below meth c D w0 n Q w k j pc lv (.ref a :: st) :=
  fun H locs ls hP hD hS hl => va_getN (D := D) (ci := ci) (v := v) (C := R') (T := T) (N := N) C.1 C.2.1 C.2.2.2.2.1 hin C.2.2.2.1 C.2.2.2.2.2.1 hP q0 hw hc f hf (va_Nw.use rfl (C.2.2.2.2.2.2.1.2 _ hlk)) (fun x h9 => by rw [hdecl] at h9; exact h9) hv hd (K H locs ls hP hD hS hl)
theorem x_put (C : XC p R s m args meth c cc n ret own Ts D tys) {a ci N index : Nat} {R' : String} {T : u_T} {fs : List Value} {v : Int32} {w' : va_W} (ty : Nat → FieldType) (hty : ∀ x, x < N → parseFieldDescriptor (T x).2.2.1 = some (ty x)) (hnm : ∀ a, a < N → ∀ b, b < N → a ≠ b → (T a).2.1 ≠ (T b).2.1) (q0 f : Nat) (hw : w[q0]? = some (a, .inr (ci, fs))) (hc : vwCl[ci]? = some (R', T, N)) (hf : f < N) (hfin : (T f).2.2.2 = false) (hdesc : (T f).2.2.1 = "I") (hlen : f < fs.length) (hdecl : (T f).1 = R') (hin : ∀ z ∈ u_ws R' T N, z ∈ Ts) (hlk : Cond.fieldLink own index R' (T f).2.1 (T f).2.2.1 ∈ Ts) (hd : decode cc pc = .ok (.putfield index, 3)) (hw' : w.set q0 (a, .inr (ci, fs.set f (.int v))) = w') (K : XW p l e R s m args below meth c D w0 n Q w' k j (pc + 3) lv st) : XW p l e R s m args below meth c D w0 n Q w k j pc lv (.int v :: .ref a :: st) :=
  fun H locs ls hP hD hS hl => va_put (D := D) (ci := ci) (v := .int v) (ty := .int) (C := R') (T := T) (N := N) C.1 C.2.1 C.2.2.2.2.1 hin ty hty hnm C.2.2.2.1 C.2.2.2.2.2.1 hP hD hS q0 hw hc f hf (C.2.2.2.2.1 _ hlk) (fun x h9 => by rw [hdecl] at h9; exact h9) hfin (by rw [hdesc]; decide +kernel) rfl rfl hlen hd (fun H1 locs1 hP1 hD1 hS1 => K H1 locs1 ls (hw' ▸ hP1) (hw' ▸ hD1) hS1 hl)
theorem x_alen (C : XC p R s m args meth c cc n ret own Ts D tys) {a N : Nat} {cA : ClassId} {f : Nat → Int32} {ty : FieldType} (q0 t0 : Nat) (hw : w[q0]? = some (a, .inl (cA, N, .inl f))) (ht : tys[t0]? = some (cA, ty)) (hd : decode cc pc = .ok (.arraylength, 1)) (K : XW p l e R s m args below meth c D w0 n Q w k j (pc + 1) lv (.int (Int32.ofNat N) :: st)) : XW p l e R s m args below meth c D w0 n Q w k j pc lv (.ref a :: st) :=
  fun H locs ls hP hD hS hl => va_alen C.1 C.2.1 C.2.2.2.2.2.1 hP q0 t0 hw ht rfl hd (K H locs ls hP hD hS hl)
theorem x_iald {cI cZ cJ : ClassId} (C : XC p R s m args meth c cc n ret own Ts D (t3 cI cZ cJ)) {a N : Nat} {f : Nat → Int32} {i : Int32} (q0 : Nat) (hw : w[q0]? = some (a, .inl (cI, N, .inl f))) (hi : vp_in i N) (hd : decode cc pc = .ok (.iaload, 1)) (K : XW p l e R s m args below meth c D w0 n Q w k j (pc + 1) lv (.int (f i.toNatClampNeg) :: st)) : XW p l e R s m args below meth c D w0 n Q w k j pc lv (.int i :: .ref a :: st) :=
  fun H locs ls hP hD hS hl => va_iald C.1 C.2.1 C.2.2.2.2.2.1 hP q0 0 hw rfl hi hd (K H locs ls hP hD hS hl)
theorem x_zald {cI cZ cJ : ClassId} (C : XC p R s m args meth c cc n ret own Ts D (t3 cI cZ cJ)) {a N : Nat} {f : Nat → Int32} {i : Int32} (q0 : Nat) (hw : w[q0]? = some (a, .inl (cZ, N, .inl f))) (hi : vp_in i N) (hd : decode cc pc = .ok (.baload, 1)) (K : XW p l e R s m args below meth c D w0 n Q w k j (pc + 1) lv (.int (f i.toNatClampNeg) :: st)) : XW p l e R s m args below meth c D w0 n Q w k j pc lv (.int i :: .ref a :: st) :=
  fun H locs ls hP hD hS hl => va_zald C.1 C.2.1 C.2.2.2.2.2.1 hP q0 1 hw rfl hi hd (K H locs ls hP hD hS hl)
theorem x_iast {cI cZ cJ : ClassId} (C : XC p R s m args meth c cc n ret own Ts D (t3 cI cZ cJ)) {a N : Nat} {f : Nat → Int32} {i x : Int32} {w' : va_W} (q0 : Nat) (hw : w[q0]? = some (a, .inl (cI, N, .inl f))) (hi : vp_in i N) (hd : decode cc pc = .ok (.iastore, 1)) (hw' : w.set q0 (a, .inl (cI, N, .inl (upd f i.toNatClampNeg x))) = w') (K : XW p l e R s m args below meth c D w0 n Q w' k j (pc + 1) lv st) : XW p l e R s m args below meth c D w0 n Q w k j pc lv (.int x :: .int i :: .ref a :: st) :=
  fun H locs ls hP hD hS hl => va_iast C.1 C.2.1 C.2.2.2.2.2.1 hP hD hS q0 0 hw rfl hi hd (fun H1 locs1 hP1 hD1 hS1 => K H1 locs1 ls (hw' ▸ hP1) (hw' ▸ hD1) hS1 hl)
theorem x_zast {cI cZ cJ : ClassId} (C : XC p R s m args meth c cc n ret own Ts D (t3 cI cZ cJ)) {a N : Nat} {f : Nat → Int32} {i x : Int32} {w' : va_W} (q0 : Nat) (hw : w[q0]? = some (a, .inl (cZ, N, .inl f))) (hi : vp_in i N) (hd : decode cc pc = .ok (.bastore, 1)) (hw' : w.set q0 (a, .inl (cZ, N, .inl (upd f i.toNatClampNeg (vp_nar .boolean x)))) = w') (K : XW p l e R s m args below meth c D w0 n Q w' k j (pc + 1) lv st) : XW p l e R s m args below meth c D w0 n Q w k j pc lv (.int x :: .int i :: .ref a :: st) :=
  fun H locs ls hP hD hS hl => va_zast C.1 C.2.1 C.2.2.2.2.2.1 hP hD hS q0 1 hw rfl hi hd (fun H1 locs1 hP1 hD1 hS1 => K H1 locs1 ls (hw' ▸ hP1) (hw' ▸ hD1) hS1 hl)
theorem x_tableIn (C : XC p R s m args meth c cc n ret own Ts D tys) {dflt lo hi off : Int} {offs : Array Int} {len t : Nat} {x : Int32} (hd : decode cc pc = .ok (.tableswitch dflt lo hi offs, len)) {v : Int} (hx : x.toInt = v) (h1 : ¬ v < lo) (h2 : ¬ hi < v) (ho : offs[(v - lo).toNat]? = some off) (ht : (pc : Int) + off = (t : Int)) (K : XW p l e R s m args below meth c D w0 n Q w k j t lv st) : XW p l e R s m args below meth c D w0 n Q w k j pc lv (.int x :: st) :=
  fun H locs ls hP hD hS hl => lv_tableIn C.1 C.2.1 hd (by rw [hx]; exact h1) (by rw [hx]; exact h2) (by rw [hx]; exact ho) ht (K H locs ls hP hD hS hl)
theorem x_tableOut (C : XC p R s m args meth c cc n ret own Ts D tys) {dflt lo hi : Int} {offs : Array Int} {len t : Nat} {x : Int32} (hd : decode cc pc = .ok (.tableswitch dflt lo hi offs, len)) (h : x.toInt < lo ∨ hi < x.toInt) (ht : (pc : Int) + dflt = (t : Int)) (K : XW p l e R s m args below meth c D w0 n Q w k j t lv st) : XW p l e R s m args below meth c D w0 n Q w k j pc lv (.int x :: st) :=
  fun H locs ls hP hD hS hl => lv_tableOut C.1 C.2.1 hd h ht (K H locs ls hP hD hS hl)
theorem x_world {w' : va_W} (h : ∀ H : Heap, va_P D vwCl w H → va_P D vwCl w' H) (hd : va_D (va_A w0 s.heap.size) w → va_D (va_A w0 s.heap.size) w') (K : XW p l e R s m args below meth c D w0 n Q w' k j pc lv st) : XW p l e R s m args below meth c D w0 n Q w k j pc lv st :=
  fun H locs ls hP hD hS hl => K H locs ls (h H hP) (hd hD) hS hl
theorem x_locals {lv' : List (Nat × Value)} (ks : List Nat) (h : lv_pick lv ks = lv') (K : XW p l e R s m args below meth c D w0 n Q w k j pc lv' st) : XW p l e R s m args below meth c D w0 n Q w k j pc lv st :=
  fun H locs ls hP hD hS hl => K H locs ls hP hD hS (lv_sub hl ks h)
theorem x_iret (C : XC p R s m args meth c cc n (some .int) own Ts D tys) {v : Int32} (hd : decode cc pc = .ok (.ireturn, 1)) : XW p l e R s m args below meth c D w0 n (MQ below (QI D tys w0 w s.heap.size v) args s k j (va_A w0 s.heap.size)) w k j pc lv (.int v :: []) :=
  fun H locs ls hP hD hS hl => W.iret (v := v) C.1 C.2.1 C.2.2.2.2.2.2.2.1 (fun t ht hW => ⟨⟨v, (), rfl, rfl, by rw [ht]; exact hP, va_K.moved hW.alike C.2.2.2.2.2.1, hD⟩, hS.F ht⟩) hS.2.2 hd C.2.2.2.2.2.2.2.2
theorem x_zret (C : XC p R s m args meth c cc n (some .boolean) own Ts D tys) {v : Int32} (hv : v &&& 1 = v) (hd : decode cc pc = .ok (.ireturn, 1)) : XW p l e R s m args below meth c D w0 n (MQ below (QI D tys w0 w s.heap.size v) args s k j (va_A w0 s.heap.size)) w k j pc lv (.int v :: []) :=
  fun H locs ls hP hD hS hl => W.zret (v := v) C.1 C.2.1 C.2.2.2.2.2.2.2.1 (by show Value.int (v &&& 1) = Value.int v; rw [hv]) (fun t ht hW => ⟨⟨v, (), rfl, rfl, by rw [ht]; exact hP, va_K.moved hW.alike C.2.2.2.2.2.1, hD⟩, hS.F ht⟩) hS.2.2 hd C.2.2.2.2.2.2.2.2
theorem x_vret (C : XC p R s m args meth c cc n none own Ts D tys)  (hd : decode cc pc = .ok (.return_, 1)) : XW p l e R s m args below meth c D w0 n (MQ below (QV D tys w0 w s.heap.size) args s k j (va_A w0 s.heap.size)) w k j pc lv [] :=
  fun H locs ls hP hD hS hl => W.vret C.1 C.2.1 C.2.2.2.2.2.2.2.1 (fun t ht hW => ⟨⟨(), rfl, trivial, by rw [ht]; exact hP, va_K.moved hW.alike C.2.2.2.2.2.1, hD⟩, hS.F ht⟩) hS.2.2 hd C.2.2.2.2.2.2.2.2
theorem x_foot {H : Heap} {locs : List Loc} (hD : va_D (va_A w0 s.heap.size) w) (hS : va_S (va_A w0 s.heap.size) s.heap H locs) : ∀ q, va_A w H.size q → va_A w0 s.heap.size q := by
  intro q h
  rcases h with ⟨k, e, h⟩ | h
  · exact hD.2 k (q, e) h
  · exact Or.inr (Nat.le_trans hS.1 h)
theorem x_dback {H : Heap} {locs : List Loc} {w' : va_W} (hD : va_D (va_A w0 s.heap.size) w) (hS : va_S (va_A w0 s.heap.size) s.heap H locs) (h : va_D (va_A w H.size) w') : va_D (va_A w0 s.heap.size) w' := h.weaken (fun _ q _ hq => x_foot hD hS q.1 hq)
theorem x_ci {mc ms : Nat} {v : Int32} {w' : va_W} {stk rest : List Value} {a : Array Value} (hr : ∀ (H : Heap) (locs : List Loc) (ls : Array Slot), va_P D vwCl w H → va_D (va_A w0 s.heap.size) w → va_S (va_A w0 s.heap.size) s.heap H locs → ls.size = n → va_Run p l e R s m args below meth c H locs k j mc ms (F0 m pc ls stk) rest (QI D tys w w' H.size v a) (va_A w H.size)) (K : XW p l e R s m args below meth c D w0 n Q w' (k + mc) (j + ms) (pc + 3) lv (.int v :: rest)) : XW p l e R s m args below meth c D w0 n Q w k j pc lv stk :=
  fun H locs ls hP hD hS hl => va_calli (hr H locs ls hP hD hS hl.1) hS (fun q _ h => x_foot hD hS q h) (x_foot hD hS) (fun r _ t H1 locs1 ht _ hw hB _ _ hS1 => by
    subst hw
    exact K H1 locs1 ls (ht ▸ hB.1) (x_dback hD hS hB.2.2) hS1 hl)
theorem x_cv {mc ms : Nat} {w' : va_W} {stk rest : List Value} {a : Array Value} (hr : ∀ (H : Heap) (locs : List Loc) (ls : Array Slot), va_P D vwCl w H → va_D (va_A w0 s.heap.size) w → va_S (va_A w0 s.heap.size) s.heap H locs → ls.size = n → va_Run p l e R s m args below meth c H locs k j mc ms (F0 m pc ls stk) rest (QV D tys w w' H.size a) (va_A w H.size)) (K : XW p l e R s m args below meth c D w0 n Q w' (k + mc) (j + ms) (pc + 3) lv rest) : XW p l e R s m args below meth c D w0 n Q w k j pc lv stk :=
  fun H locs ls hP hD hS hl => va_callv (hr H locs ls hP hD hS hl.1) hS (fun q _ h => x_foot hD hS q h) (x_foot hD hS) (fun _ t H1 locs1 ht _ _ hB _ _ hS1 => K H1 locs1 ls (ht ▸ hB.1) (x_dback hD hS hB.2.2) hS1 hl)
theorem x_cr {mc ms v : Nat} {w' : va_W} {stk rest : List Value} {a : Array Value} (hr : ∀ (H : Heap) (locs : List Loc) (ls : Array Slot), va_P D vwCl w H → va_D (va_A w0 s.heap.size) w → va_S (va_A w0 s.heap.size) s.heap H locs → ls.size = n → va_Run p l e R s m args below meth c H locs k j mc ms (F0 m pc ls stk) rest (QR D tys w w' H.size v a) (va_A w H.size)) (K : XW p l e R s m args below meth c D w0 n Q w' (k + mc) (j + ms) (pc + 3) lv (.ref v :: rest)) : XW p l e R s m args below meth c D w0 n Q w k j pc lv stk :=
  fun H locs ls hP hD hS hl => va_callr (hr H locs ls hP hD hS hl.1) hS (fun q _ h => x_foot hD hS q h) (x_foot hD hS) (fun _ ra t H1 locs1 ht _ _ hB _ _ hS1 => by
    obtain ⟨rfl, hB⟩ := hB
    exact K H1 locs1 ls (ht ▸ hB.1) (x_dback hD hS hB.2.2) hS1 hl)
theorem x_pre {H : Heap} {av : List Value} (hK : va_K D vwCl tys s) (hN : NW s) (hP : va_P D vwCl w H) (hD : va_D (va_A w0 s.heap.size) w) : ∀ U : State, U.heap = H → s.WarmedH U.vm → PC D tys av w H.size av.toArray U :=
  fun U hU hW => ⟨rfl, by rw [hU], by rw [hU]; exact hP, va_K.moved hW.alike hK, hD.weaken (fun _ _ _ _ => trivial), NW.warm hW hN⟩
theorem x_runV (C : XC p R s m args meth c cc n ret own Ts D tys) {y : MethodName} {bytes : ByteArray} {maxL mc ms na index : Nat} {rt : Option FieldType} {ws : List Cond} {rm : Room} {Cn : String} {Qc : Nat → Array Value → State → Outcome → State → Prop} {As rest : List Value} {b : Nat} (hM : ∀ sz, Met l y ws rm (PC D tys (.ref b :: As) w sz) (Qc sz) mc ms (va_A w sz)) (cw : CallW R s args own Cn index y bytes maxL rt ws rm mc ms na) (q0 : Nat) {ci N : Nat} {T : u_T} {fs : List Value} (hw : w[q0]? = some (b, .inr (ci, fs))) (hc : vwCl[ci]? = some (Cn, T, N)) (hn : As.length = na) (hst : (rest.map fun v => v.category).sum ≤ 8) (hd : decode cc pc = .ok (.invokevirtual index, 3)) (hf : k + mc ≤ R.cells ∧ j + ms ≤ R.slots) :
    ∀ (H : Heap) (locs : List Loc) (ls : Array Slot), va_P D vwCl w H → va_D (va_A w0 s.heap.size) w → va_S (va_A w0 s.heap.size) s.heap H locs → ls.size = n → va_Run p l e R s m args below meth c H locs k j mc ms (F0 m pc ls (As.reverse ++ .ref b :: rest)) rest (Qc H.size (Value.ref b :: As).toArray) (va_A w H.size) :=
  fun H locs ls hP hD hS hl => va_runV ⟨C.1, C.2.1, C.2.2.1, C.2.2.2.1, C.2.2.2.2.1⟩ (hM H.size) cw ⟨PC.blind, va_recv C.2.2.2.2.2.1 hP hc hw, x_pre C.2.2.2.2.2.1 C.2.2.2.2.2.2.1 hP hD⟩ rfl hn hl rfl (lv_room hst) hd hf
theorem x_runS (C : XC p R s m args meth c cc n ret own Ts D tys) {y : MethodName} {bytes : ByteArray} {maxL mc ms na index : Nat} {rt : Option FieldType} {ws : List Cond} {rm : Room} {Qc : Nat → Array Value → State → Outcome → State → Prop} {As rest : List Value} (hM : ∀ sz, Met l y ws rm (PC D tys As w sz) (Qc sz) mc ms (va_A w sz)) (cw : CallB R s args own index y bytes maxL rt ws rm mc ms na ∧ (Cond.static y).before args s = true) (hn : As.length = na) (hst : (rest.map fun v => v.category).sum ≤ 8) (hd : decode cc pc = .ok (.invokestatic index, 3)) (hf : k + mc ≤ R.cells ∧ j + ms ≤ R.slots) :
    ∀ (H : Heap) (locs : List Loc) (ls : Array Slot), va_P D vwCl w H → va_D (va_A w0 s.heap.size) w → va_S (va_A w0 s.heap.size) s.heap H locs → ls.size = n → va_Run p l e R s m args below meth c H locs k j mc ms (F0 m pc ls (As.reverse ++ rest)) rest (Qc H.size As.toArray) (va_A w H.size) :=
  fun H locs ls hP hD hS hl => va_runS ⟨C.1, C.2.1, C.2.2.1, C.2.2.2.1, C.2.2.2.2.1⟩ (hM H.size) cw ⟨PC.blind, x_pre C.2.2.2.2.2.1 C.2.2.2.2.2.2.1 hP hD⟩ rfl hn hl rfl (lv_room hst) hd hf
theorem x_runSN (C : XC p R s m args meth c cc n ret own Ts D tys) {y : MethodName} {bytes : ByteArray} {maxL mc ms na index : Nat} {rt : Option FieldType} {ws : List Cond} {rm : Room} {host : String} {Qc : Nat → Array Value → State → Outcome → State → Prop} {As rest : List Value} (hM : ∀ sz, Met l y ws rm (PC D tys As w sz) (Qc sz) mc ms (va_A w sz)) (cw : va_CN R s args own index y host bytes maxL rt ws rm mc ms na ∧ (Cond.static y).before args s = true ∧ True) (hn : As.length = na) (hst : (rest.map fun v => v.category).sum ≤ 8) (hd : decode cc pc = .ok (.invokestatic index, 3)) (hf : k + mc ≤ R.cells ∧ j + ms ≤ R.slots) :
    ∀ (H : Heap) (locs : List Loc) (ls : Array Slot), va_P D vwCl w H → va_D (va_A w0 s.heap.size) w → va_S (va_A w0 s.heap.size) s.heap H locs → ls.size = n → va_Run p l e R s m args below meth c H locs k j mc ms (F0 m pc ls (As.reverse ++ rest)) rest (Qc H.size As.toArray) (va_A w H.size) :=
  fun H locs ls hP hD hS hl => va_runSN ⟨C.1, C.2.1, C.2.2.1, C.2.2.2.1, C.2.2.2.2.1⟩ (hM H.size) cw ⟨PC.blind, x_pre C.2.2.2.2.2.1 C.2.2.2.2.2.2.1 hP hD⟩ rfl hn hl rfl (lv_room hst) hd hf
end XR
/-- a method's contract out of its body's walk -/
theorem x_met {l : Launch} {y : MethodName} {ws ws' : List Cond} {rm : Room} {cc : ByteArray} {maxL mc ms : Nat} {ret : Option FieldType} {D : va_G} {tys : List (ClassId × FieldType)} {av : List Value} {w : va_W} {Qc : Nat → Array Value → State → Outcome → State → Prop} (own : String) (hown : y.cls = own) (hy : plainName y.cls = true) (hw : ws = Cond.code y cc maxL ret :: ws') (hlen : (lg_sl av).length ≤ maxL)
    (body : ∀ p e s m args below meth c, XC p rm s m args meth c cc maxL ret own ws D tys → XW p l e rm s m args below meth c D w maxL (MQ below (Qc s.heap.size) args s mc ms (va_A w s.heap.size)) w 0 0 0 (lv_args 0 av) []) :
    ∀ sz, Met l y ws rm (PC D tys av w sz) (Qc sz) mc ms (va_A w sz) := by
  intro sz
  subst hown
  refine Met.ofW (cc := cc) (maxL := maxL) (ret := ret) hy hw ?_
  intro p e s m args below meth c s₁ B hml hv
  obtain ⟨rfl, hsz, hP, hK, hD0, hN⟩ := hv
  subst hsz
  have hl := lv_entry av (n := maxL) hlen
  rw [lg_entry_eq]
  generalize (lg_sl av ++ List.replicate (maxL - (lg_sl av).length) Slot.unset).toArray = ls at hl ⊢
  exact body p e s m _ below meth c ⟨B.exec, B.bytes, hml, findClass_of_methodNamed B.named, atoms_spec (ws := ws) B.pre, hK, hN, B.returns, B.notSynchronized⟩ s.heap [] ls hP hD0.self va_S.rf hl
end
section
/-! BASE 2: guards, binds, loops, worlds -/
def inB (i : Int32) (n : Nat) : Bool := decide (¬ (i < 0 ∨ n ≤ i.toNatClampNeg))
theorem gd {c : Prop} [Decidable c] {α : Type} {e : Option α} {r : α} (h : (if c then e else none) = some r) : c ∧ e = some r := by
  by_cases hc : c
  · exact ⟨hc, (if_pos hc).symm.trans h⟩
  · exact absurd ((if_neg hc).symm.trans h) (fun z => nomatch z)
theorem gdB {i : Int32} {n : Nat} {α : Type} {e : Option α} {r : α} (h : (if inB i n = true then e else none) = some r) : vp_in i n ∧ e = some r := ⟨of_decide_eq_true (p := ¬ (i < 0 ∨ n ≤ i.toNatClampNeg)) (gd h).1, (gd h).2⟩
theorem ob {α β : Type} {o : Option α} {f : α → Option β} {r : β} (h : o.bind f = some r) : ∃ a, o = some a ∧ f a = some r := by
  cases o with
  | none => exact absurd h (fun z => nomatch z)
  | some a => exact ⟨a, rfl, h⟩
def exI {α β : Type} (o : Option β) : Option (α ⊕ β) := o.map Sum.inr
theorem exI_some {α β : Type} {o : Option β} {z : α ⊕ β} (h : exI o = some z) : ∃ r, o = some r ∧ z = .inr r := by
  cases o with
  | none => exact absurd h (fun z => nomatch z)
  | some a => exact ⟨a, rfl, (Option.some.inj h).symm⟩
def wloop {α β : Type} (f : α → Option (α ⊕ β)) : Nat → α → Option β
  | 0, _ => none
  | n + 1, a => match f a with
    | none => none
    | some (.inl a') => wloop f n a'
    | some (.inr r) => some r
theorem wloop_met {α β : Type} {f : α → Option (α ⊕ β)} {P : α → Prop} {r : β} (step : ∀ (a : α) (z : α ⊕ β), f a = some z → (∀ a', z = .inl a' → P a') → (∀ r', z = .inr r' → r' = r) → P a) : ∀ (n : Nat) (a : α), wloop f n a = some r → P a := by
  intro n
  induction n with
  | zero => intro a h; exact absurd h (fun z => nomatch z)
  | succ n ih =>
    intro a h
    cases hf : f a with
    | none => rw [wloop, hf] at h; exact absurd h (fun z => nomatch z)
    | some z =>
      cases z with
      | inl a' =>
        rw [wloop, hf] at h
        exact step a _ hf (fun a2 h2 => by cases h2; exact ih a' h) (fun r' h2 => nomatch h2)
      | inr r1 =>
        rw [wloop, hf] at h
        exact step a _ hf (fun a2 h2 => nomatch h2) (fun r' h2 => by cases h2; exact Option.some.inj h)
theorem lt_of_at {w : va_W} {q0 : Nat} {x : Nat × va_E} (h : w[q0]? = some x) : q0 < w.length := (List.getElem?_eq_some_iff.mp h).1
theorem set_at {w : va_W} {q0 : Nat} {x : Nat × va_E} (h : q0 < w.length) : (w.set q0 x)[q0]? = some x := by rw [List.getElem?_set_self h]
theorem set_two {w : va_W} {q0 : Nat} {x y : Nat × va_E} : (w.set q0 x).set q0 y = w.set q0 y := List.set_set ..
theorem set_self {w : va_W} {q0 : Nat} {x : Nat × va_E} (h : w[q0]? = some x) : w.set q0 x = w := by
  apply List.ext_getElem?
  intro i
  by_cases hi : q0 = i
  · subst hi
    rw [List.getElem?_set_self (lt_of_at h), h]
  · rw [List.getElem?_set_ne hi]
theorem sw_out3_0 {x : Int32} (h0 : ¬ x = 0) (h1 : ¬ x = 1) (h2 : ¬ x = 2) : x.toInt < 0 ∨ 2 < x.toInt := by
  rcases Int.lt_trichotomy x.toInt 1 with h | h | h
  · rcases Int.lt_trichotomy x.toInt 0 with g | g | g
    · exact Or.inl g
    · exact absurd (Int32.toInt_inj.mp (by rw [g]; decide)) h0
    · omega
  · exact absurd (Int32.toInt_inj.mp (by rw [h]; decide)) h1
  · rcases Int.lt_trichotomy x.toInt 2 with g | g | g
    · omega
    · exact absurd (Int32.toInt_inj.mp (by rw [g]; decide)) h2
    · exact Or.inr g
theorem sw_out3_3 {x : Int32} (h0 : ¬ x = 3) (h1 : ¬ x = 4) (h2 : ¬ x = 5) : x.toInt < 3 ∨ 5 < x.toInt := by
  rcases Int.lt_trichotomy x.toInt 4 with h | h | h
  · rcases Int.lt_trichotomy x.toInt 3 with g | g | g
    · exact Or.inl g
    · exact absurd (Int32.toInt_inj.mp (by rw [g]; decide)) h0
    · omega
  · exact absurd (Int32.toInt_inj.mp (by rw [h]; decide)) h1
  · rcases Int.lt_trichotomy x.toInt 5 with g | g | g
    · omega
    · exact absurd (Int32.toInt_inj.mp (by rw [g]; decide)) h2
    · exact Or.inr g
theorem sw_out4_0 {x : Int32} (h0 : ¬ x = 0) (h1 : ¬ x = 1) (h2 : ¬ x = 2) (h3 : ¬ x = 3) : x.toInt < 0 ∨ 3 < x.toInt := by
  rcases sw_out3_0 h0 h1 h2 with h | h
  · exact Or.inl h
  · rcases Int.lt_trichotomy x.toInt 3 with g | g | g
    · omega
    · exact absurd (Int32.toInt_inj.mp (by rw [g]; decide)) h3
    · exact Or.inr g
theorem nm_mem (n : Nat) {q : String × Nat × MethodName × String} (h : nwM[n]? = some q) : q ∈ nwM := List.mem_of_getElem? h
theorem nf_mem (n : Nat) {q : String × Nat × String × String × String × String} (h : nwF[n]? = some q) : q ∈ nwF := List.mem_of_getElem? h
section XR2
variable {p : Program} {l : Launch} {e : Env} {R : Room} {s : State} {m : MethodId} {args : Array Value} {below : List Frame} {meth : Method} {c : Code} {D : va_G} {w0 : va_W} {n : Nat} {Q : State → Prop} {w : va_W} {k j pc : Nat} {lv : List (Nat × Value)} {st : List Value} {tys : List (ClassId × FieldType)}
theorem x_eqw {w' : va_W} (h : w = w') (K : XW p l e R s m args below meth c D w0 n Q w' k j pc lv st) : XW p l e R s m args below meth c D w0 n Q w k j pc lv st := h ▸ K
theorem x_ci0 {v : Int32} {w' : va_W} {stk rest : List Value} {a : Array Value} (hr : ∀ (H : Heap) (locs : List Loc) (ls : Array Slot), va_P D vwCl w H → va_D (va_A w0 s.heap.size) w → va_S (va_A w0 s.heap.size) s.heap H locs → ls.size = n → va_Run p l e R s m args below meth c H locs k j 0 0 (F0 m pc ls stk) rest (QI D tys w w' H.size v a) (va_A w H.size)) (K : XW p l e R s m args below meth c D w0 n Q w' k j (pc + 3) lv (.int v :: rest)) : XW p l e R s m args below meth c D w0 n Q w k j pc lv stk := x_ci hr K
theorem x_cv0 {w' : va_W} {stk rest : List Value} {a : Array Value} (hr : ∀ (H : Heap) (locs : List Loc) (ls : Array Slot), va_P D vwCl w H → va_D (va_A w0 s.heap.size) w → va_S (va_A w0 s.heap.size) s.heap H locs → ls.size = n → va_Run p l e R s m args below meth c H locs k j 0 0 (F0 m pc ls stk) rest (QV D tys w w' H.size a) (va_A w H.size)) (K : XW p l e R s m args below meth c D w0 n Q w' k j (pc + 3) lv rest) : XW p l e R s m args below meth c D w0 n Q w k j pc lv stk := x_cv hr K
end XR2
theorem va_D.perm {A : Nat → Prop} {w w' : va_W} (hp : w'.Perm w) (h : va_D A w) : va_D A w' := by
  have nd : ∀ {l : va_W}, va_D A l ↔ (l.map Prod.fst).Nodup ∧ ∀ q ∈ l, A q.1 := by
    intro l
    constructor
    · intro h
      refine ⟨List.nodup_iff_pairwise_ne.mpr (List.pairwise_iff_getElem.mpr fun i j hi hj hij he => ?_), fun q hq => ?_⟩
      · have hi' : i < l.length := by simpa using hi
        have hj' : j < l.length := by simpa using hj
        have := h.1 i j l[i] l[j] (List.getElem?_eq_getElem hi') (List.getElem?_eq_getElem hj') (by simpa using he)
        omega
      · obtain ⟨i, hi⟩ := List.getElem?_of_mem hq
        exact h.2 i q hi
    · intro h
      have hn := List.pairwise_iff_getElem.mp (List.nodup_iff_pairwise_ne.mp h.1)
      refine ⟨fun i j p q hi hj hpq => ?_, fun k q hk => h.2 q (List.mem_of_getElem? hk)⟩
      obtain ⟨hi1, hi2⟩ := List.getElem?_eq_some_iff.mp hi
      obtain ⟨hj1, hj2⟩ := List.getElem?_eq_some_iff.mp hj
      rcases Nat.lt_trichotomy i j with g | g | g
      · have h3 := hn i j (by simpa using hi1) (by simpa using hj1) g
        rw [List.getElem_map, List.getElem_map, hi2, hj2] at h3
        exact absurd hpq h3
      · exact g
      · have h3 := hn j i (by simpa using hj1) (by simpa using hi1) g
        rw [List.getElem_map, List.getElem_map, hi2, hj2] at h3
        exact absurd hpq.symm h3
  have h1 := nd.mp h
  exact nd.mpr ⟨(hp.map Prod.fst).nodup_iff.mpr h1.1, fun q hq => h1.2 q (hp.mem_iff.mp hq)⟩
def wE (cI cZ : ClassId) (ad : Nat → Nat) (S : St) (rest : va_W) : va_W :=
  (ad 0, .inr (4, [.int (S 0 0), .ref (ad 14), .ref (ad 21), .ref (ad 1), .int (S 0 4), .ref (ad 2), .ref (ad 3), .ref (ad 4), .ref (ad 5), .ref (ad 6), .int (S 0 10)])) ::
  (ad 1, .inl (cI, 40, .inl (S 1))) ::
  (ad 2, .inl (cZ, 42, .inl (S 2))) ::
  (ad 3, .inl (cI, 42, .inl (S 3))) ::
  (ad 4, .inl (cI, 42, .inl (S 4))) ::
  (ad 5, .inl (cI, 42, .inl (S 5))) ::
  (ad 6, .inl (cI, 168, .inl (S 6))) ::
  (ad 7, .inr (4, [.int (S 7 0), .ref (ad 14), .ref (ad 21), .ref (ad 8), .int (S 7 4), .ref (ad 9), .ref (ad 10), .ref (ad 11), .ref (ad 12), .ref (ad 13), .int (S 7 10)])) ::
  (ad 8, .inl (cI, 40, .inl (S 8))) ::
  (ad 9, .inl (cZ, 42, .inl (S 9))) ::
  (ad 10, .inl (cI, 42, .inl (S 10))) ::
  (ad 11, .inl (cI, 42, .inl (S 11))) ::
  (ad 12, .inl (cI, 42, .inl (S 12))) ::
  (ad 13, .inl (cI, 168, .inl (S 13))) ::
  (ad 14, .inr (2, [.ref (ad 15), .ref (ad 16), .ref (ad 17), .ref (ad 18), .ref (ad 19), .ref (ad 20), .int (S 14 6)])) ::
  (ad 15, .inl (cI, 40, .inl (S 15))) ::
  (ad 16, .inl (cI, 40, .inl (S 16))) ::
  (ad 17, .inl (cI, 40, .inl (S 17))) ::
  (ad 18, .inl (cI, 40, .inl (S 18))) ::
  (ad 19, .inl (cI, 40, .inl (S 19))) ::
  (ad 20, .inl (cI, 40, .inl (S 20))) ::
  (ad 21, .inr (0, [.ref (ad 22), .ref (ad 23)])) ::
  (ad 22, .inl (cI, 3, .inl (S 22))) ::
  (ad 23, .inl (cI, 3, .inl (S 23))) ::
  (ad 24, .inr (3, [.ref (ad 25), .ref (ad 26)])) ::
  (ad 25, .inl (cI, 126, .inl (S 25))) ::
  (ad 26, .inl (cZ, 42, .inl (S 26))) ::
  (ad 27, .inr (1, [.ref (ad 28), .ref (ad 29), .ref (ad 30), .ref (ad 31), .int (S 27 4)])) ::
  (ad 28, .inl (cI, 20, .inl (S 28))) ::
  (ad 29, .inl (cI, 20, .inl (S 29))) ::
  (ad 30, .inl (cI, 20, .inl (S 30))) ::
  (ad 31, .inl (cI, 20, .inl (S 31))) :: rest
theorem wE_f0_0 (cI cZ : ClassId) (ad : Nat → Nat) (S : St) (rest : va_W) (v : Int32) : (wE cI cZ ad S rest).set 0 (ad 0, .inr (4, ([.int (S 0 0), .ref (ad 14), .ref (ad 21), .ref (ad 1), .int (S 0 4), .ref (ad 2), .ref (ad 3), .ref (ad 4), .ref (ad 5), .ref (ad 6), .int (S 0 10)] : List Value).set 0 (.int v))) = wE cI cZ ad (up S 0 (upd (S 0) 0 v)) rest := rfl
theorem wE_f0_4 (cI cZ : ClassId) (ad : Nat → Nat) (S : St) (rest : va_W) (v : Int32) : (wE cI cZ ad S rest).set 0 (ad 0, .inr (4, ([.int (S 0 0), .ref (ad 14), .ref (ad 21), .ref (ad 1), .int (S 0 4), .ref (ad 2), .ref (ad 3), .ref (ad 4), .ref (ad 5), .ref (ad 6), .int (S 0 10)] : List Value).set 4 (.int v))) = wE cI cZ ad (up S 0 (upd (S 0) 4 v)) rest := rfl
theorem wE_f0_10 (cI cZ : ClassId) (ad : Nat → Nat) (S : St) (rest : va_W) (v : Int32) : (wE cI cZ ad S rest).set 0 (ad 0, .inr (4, ([.int (S 0 0), .ref (ad 14), .ref (ad 21), .ref (ad 1), .int (S 0 4), .ref (ad 2), .ref (ad 3), .ref (ad 4), .ref (ad 5), .ref (ad 6), .int (S 0 10)] : List Value).set 10 (.int v))) = wE cI cZ ad (up S 0 (upd (S 0) 10 v)) rest := rfl
theorem wE_s1 (cI cZ : ClassId) (ad : Nat → Nat) (S : St) (rest : va_W) (g : Nat → Int32) : (wE cI cZ ad S rest).set 1 (ad 1, .inl (cI, 40, .inl g)) = wE cI cZ ad (up S 1 g) rest := rfl
theorem wE_s2 (cI cZ : ClassId) (ad : Nat → Nat) (S : St) (rest : va_W) (g : Nat → Int32) : (wE cI cZ ad S rest).set 2 (ad 2, .inl (cZ, 42, .inl g)) = wE cI cZ ad (up S 2 g) rest := rfl
theorem wE_s3 (cI cZ : ClassId) (ad : Nat → Nat) (S : St) (rest : va_W) (g : Nat → Int32) : (wE cI cZ ad S rest).set 3 (ad 3, .inl (cI, 42, .inl g)) = wE cI cZ ad (up S 3 g) rest := rfl
theorem wE_s4 (cI cZ : ClassId) (ad : Nat → Nat) (S : St) (rest : va_W) (g : Nat → Int32) : (wE cI cZ ad S rest).set 4 (ad 4, .inl (cI, 42, .inl g)) = wE cI cZ ad (up S 4 g) rest := rfl
theorem wE_s5 (cI cZ : ClassId) (ad : Nat → Nat) (S : St) (rest : va_W) (g : Nat → Int32) : (wE cI cZ ad S rest).set 5 (ad 5, .inl (cI, 42, .inl g)) = wE cI cZ ad (up S 5 g) rest := rfl
theorem wE_s6 (cI cZ : ClassId) (ad : Nat → Nat) (S : St) (rest : va_W) (g : Nat → Int32) : (wE cI cZ ad S rest).set 6 (ad 6, .inl (cI, 168, .inl g)) = wE cI cZ ad (up S 6 g) rest := rfl
theorem wE_f7_0 (cI cZ : ClassId) (ad : Nat → Nat) (S : St) (rest : va_W) (v : Int32) : (wE cI cZ ad S rest).set 7 (ad 7, .inr (4, ([.int (S 7 0), .ref (ad 14), .ref (ad 21), .ref (ad 8), .int (S 7 4), .ref (ad 9), .ref (ad 10), .ref (ad 11), .ref (ad 12), .ref (ad 13), .int (S 7 10)] : List Value).set 0 (.int v))) = wE cI cZ ad (up S 7 (upd (S 7) 0 v)) rest := rfl
theorem wE_f7_4 (cI cZ : ClassId) (ad : Nat → Nat) (S : St) (rest : va_W) (v : Int32) : (wE cI cZ ad S rest).set 7 (ad 7, .inr (4, ([.int (S 7 0), .ref (ad 14), .ref (ad 21), .ref (ad 8), .int (S 7 4), .ref (ad 9), .ref (ad 10), .ref (ad 11), .ref (ad 12), .ref (ad 13), .int (S 7 10)] : List Value).set 4 (.int v))) = wE cI cZ ad (up S 7 (upd (S 7) 4 v)) rest := rfl
theorem wE_f7_10 (cI cZ : ClassId) (ad : Nat → Nat) (S : St) (rest : va_W) (v : Int32) : (wE cI cZ ad S rest).set 7 (ad 7, .inr (4, ([.int (S 7 0), .ref (ad 14), .ref (ad 21), .ref (ad 8), .int (S 7 4), .ref (ad 9), .ref (ad 10), .ref (ad 11), .ref (ad 12), .ref (ad 13), .int (S 7 10)] : List Value).set 10 (.int v))) = wE cI cZ ad (up S 7 (upd (S 7) 10 v)) rest := rfl
theorem wE_s8 (cI cZ : ClassId) (ad : Nat → Nat) (S : St) (rest : va_W) (g : Nat → Int32) : (wE cI cZ ad S rest).set 8 (ad 8, .inl (cI, 40, .inl g)) = wE cI cZ ad (up S 8 g) rest := rfl
theorem wE_s9 (cI cZ : ClassId) (ad : Nat → Nat) (S : St) (rest : va_W) (g : Nat → Int32) : (wE cI cZ ad S rest).set 9 (ad 9, .inl (cZ, 42, .inl g)) = wE cI cZ ad (up S 9 g) rest := rfl
theorem wE_s10 (cI cZ : ClassId) (ad : Nat → Nat) (S : St) (rest : va_W) (g : Nat → Int32) : (wE cI cZ ad S rest).set 10 (ad 10, .inl (cI, 42, .inl g)) = wE cI cZ ad (up S 10 g) rest := rfl
theorem wE_s11 (cI cZ : ClassId) (ad : Nat → Nat) (S : St) (rest : va_W) (g : Nat → Int32) : (wE cI cZ ad S rest).set 11 (ad 11, .inl (cI, 42, .inl g)) = wE cI cZ ad (up S 11 g) rest := rfl
theorem wE_s12 (cI cZ : ClassId) (ad : Nat → Nat) (S : St) (rest : va_W) (g : Nat → Int32) : (wE cI cZ ad S rest).set 12 (ad 12, .inl (cI, 42, .inl g)) = wE cI cZ ad (up S 12 g) rest := rfl
theorem wE_s13 (cI cZ : ClassId) (ad : Nat → Nat) (S : St) (rest : va_W) (g : Nat → Int32) : (wE cI cZ ad S rest).set 13 (ad 13, .inl (cI, 168, .inl g)) = wE cI cZ ad (up S 13 g) rest := rfl
theorem wE_f14_6 (cI cZ : ClassId) (ad : Nat → Nat) (S : St) (rest : va_W) (v : Int32) : (wE cI cZ ad S rest).set 14 (ad 14, .inr (2, ([.ref (ad 15), .ref (ad 16), .ref (ad 17), .ref (ad 18), .ref (ad 19), .ref (ad 20), .int (S 14 6)] : List Value).set 6 (.int v))) = wE cI cZ ad (up S 14 (upd (S 14) 6 v)) rest := rfl
theorem wE_s15 (cI cZ : ClassId) (ad : Nat → Nat) (S : St) (rest : va_W) (g : Nat → Int32) : (wE cI cZ ad S rest).set 15 (ad 15, .inl (cI, 40, .inl g)) = wE cI cZ ad (up S 15 g) rest := rfl
theorem wE_s16 (cI cZ : ClassId) (ad : Nat → Nat) (S : St) (rest : va_W) (g : Nat → Int32) : (wE cI cZ ad S rest).set 16 (ad 16, .inl (cI, 40, .inl g)) = wE cI cZ ad (up S 16 g) rest := rfl
theorem wE_s17 (cI cZ : ClassId) (ad : Nat → Nat) (S : St) (rest : va_W) (g : Nat → Int32) : (wE cI cZ ad S rest).set 17 (ad 17, .inl (cI, 40, .inl g)) = wE cI cZ ad (up S 17 g) rest := rfl
theorem wE_s18 (cI cZ : ClassId) (ad : Nat → Nat) (S : St) (rest : va_W) (g : Nat → Int32) : (wE cI cZ ad S rest).set 18 (ad 18, .inl (cI, 40, .inl g)) = wE cI cZ ad (up S 18 g) rest := rfl
theorem wE_s19 (cI cZ : ClassId) (ad : Nat → Nat) (S : St) (rest : va_W) (g : Nat → Int32) : (wE cI cZ ad S rest).set 19 (ad 19, .inl (cI, 40, .inl g)) = wE cI cZ ad (up S 19 g) rest := rfl
theorem wE_s20 (cI cZ : ClassId) (ad : Nat → Nat) (S : St) (rest : va_W) (g : Nat → Int32) : (wE cI cZ ad S rest).set 20 (ad 20, .inl (cI, 40, .inl g)) = wE cI cZ ad (up S 20 g) rest := rfl
theorem wE_s22 (cI cZ : ClassId) (ad : Nat → Nat) (S : St) (rest : va_W) (g : Nat → Int32) : (wE cI cZ ad S rest).set 22 (ad 22, .inl (cI, 3, .inl g)) = wE cI cZ ad (up S 22 g) rest := rfl
theorem wE_s23 (cI cZ : ClassId) (ad : Nat → Nat) (S : St) (rest : va_W) (g : Nat → Int32) : (wE cI cZ ad S rest).set 23 (ad 23, .inl (cI, 3, .inl g)) = wE cI cZ ad (up S 23 g) rest := rfl
theorem wE_s25 (cI cZ : ClassId) (ad : Nat → Nat) (S : St) (rest : va_W) (g : Nat → Int32) : (wE cI cZ ad S rest).set 25 (ad 25, .inl (cI, 126, .inl g)) = wE cI cZ ad (up S 25 g) rest := rfl
theorem wE_s26 (cI cZ : ClassId) (ad : Nat → Nat) (S : St) (rest : va_W) (g : Nat → Int32) : (wE cI cZ ad S rest).set 26 (ad 26, .inl (cZ, 42, .inl g)) = wE cI cZ ad (up S 26 g) rest := rfl
theorem wE_f27_4 (cI cZ : ClassId) (ad : Nat → Nat) (S : St) (rest : va_W) (v : Int32) : (wE cI cZ ad S rest).set 27 (ad 27, .inr (1, ([.ref (ad 28), .ref (ad 29), .ref (ad 30), .ref (ad 31), .int (S 27 4)] : List Value).set 4 (.int v))) = wE cI cZ ad (up S 27 (upd (S 27) 4 v)) rest := rfl
theorem wE_s28 (cI cZ : ClassId) (ad : Nat → Nat) (S : St) (rest : va_W) (g : Nat → Int32) : (wE cI cZ ad S rest).set 28 (ad 28, .inl (cI, 20, .inl g)) = wE cI cZ ad (up S 28 g) rest := rfl
theorem wE_s29 (cI cZ : ClassId) (ad : Nat → Nat) (S : St) (rest : va_W) (g : Nat → Int32) : (wE cI cZ ad S rest).set 29 (ad 29, .inl (cI, 20, .inl g)) = wE cI cZ ad (up S 29 g) rest := rfl
theorem wE_s30 (cI cZ : ClassId) (ad : Nat → Nat) (S : St) (rest : va_W) (g : Nat → Int32) : (wE cI cZ ad S rest).set 30 (ad 30, .inl (cI, 20, .inl g)) = wE cI cZ ad (up S 30 g) rest := rfl
theorem wE_s31 (cI cZ : ClassId) (ad : Nat → Nat) (S : St) (rest : va_W) (g : Nat → Int32) : (wE cI cZ ad S rest).set 31 (ad 31, .inl (cI, 20, .inl g)) = wE cI cZ ad (up S 31 g) rest := rfl
def wM (cI cZ : ClassId) (ad : Nat → Nat) (S : St) (rest : va_W) : va_W :=
  (ad 0, .inr (6, [.ref (ad 1), .ref (ad 2), .int (S 0 2), .ref (ad 3), .ref (ad 4), .ref (ad 5), .ref (ad 6), .ref (ad 7), .ref (ad 8), .ref (ad 9), .ref (ad 10), .ref (ad 11), .ref (ad 12), .ref (ad 13), .int (S 0 14), .ref (ad 14), .ref (ad 15), .ref (ad 16), .ref (ad 17), .ref (ad 18), .ref (ad 19), .ref (ad 20), .ref (ad 21), .ref (ad 22), .ref (ad 23), .int (S 0 25)])) ::
  (ad 1, .inl (cI, 3, .inl (S 1))) ::
  (ad 2, .inl (cI, 3, .inl (S 2))) ::
  (ad 3, .inl (cI, 40, .inl (S 3))) ::
  (ad 4, .inl (cI, 40, .inl (S 4))) ::
  (ad 5, .inl (cI, 40, .inl (S 5))) ::
  (ad 6, .inl (cI, 40, .inl (S 6))) ::
  (ad 7, .inl (cI, 40, .inl (S 7))) ::
  (ad 8, .inl (cI, 40, .inl (S 8))) ::
  (ad 9, .inl (cI, 40, .inl (S 9))) ::
  (ad 10, .inl (cI, 40, .inl (S 10))) ::
  (ad 11, .inl (cI, 40, .inl (S 11))) ::
  (ad 12, .inl (cI, 126, .inl (S 12))) ::
  (ad 13, .inl (cZ, 42, .inl (S 13))) ::
  (ad 14, .inl (cI, 20, .inl (S 14))) ::
  (ad 15, .inl (cI, 20, .inl (S 15))) ::
  (ad 16, .inl (cI, 20, .inl (S 16))) ::
  (ad 17, .inl (cI, 20, .inl (S 17))) ::
  (ad 18, .inl (cZ, 42, .inl (S 18))) ::
  (ad 19, .inl (cI, 42, .inl (S 19))) ::
  (ad 20, .inl (cI, 42, .inl (S 20))) ::
  (ad 21, .inl (cI, 42, .inl (S 21))) ::
  (ad 22, .inl (cI, 168, .inl (S 22))) ::
  (ad 23, .inl (cI, 294, .inl (S 23))) :: rest
theorem wM_f0_2 (cI cZ : ClassId) (ad : Nat → Nat) (S : St) (rest : va_W) (v : Int32) : (wM cI cZ ad S rest).set 0 (ad 0, .inr (6, ([.ref (ad 1), .ref (ad 2), .int (S 0 2), .ref (ad 3), .ref (ad 4), .ref (ad 5), .ref (ad 6), .ref (ad 7), .ref (ad 8), .ref (ad 9), .ref (ad 10), .ref (ad 11), .ref (ad 12), .ref (ad 13), .int (S 0 14), .ref (ad 14), .ref (ad 15), .ref (ad 16), .ref (ad 17), .ref (ad 18), .ref (ad 19), .ref (ad 20), .ref (ad 21), .ref (ad 22), .ref (ad 23), .int (S 0 25)] : List Value).set 2 (.int v))) = wM cI cZ ad (up S 0 (upd (S 0) 2 v)) rest := rfl
theorem wM_f0_14 (cI cZ : ClassId) (ad : Nat → Nat) (S : St) (rest : va_W) (v : Int32) : (wM cI cZ ad S rest).set 0 (ad 0, .inr (6, ([.ref (ad 1), .ref (ad 2), .int (S 0 2), .ref (ad 3), .ref (ad 4), .ref (ad 5), .ref (ad 6), .ref (ad 7), .ref (ad 8), .ref (ad 9), .ref (ad 10), .ref (ad 11), .ref (ad 12), .ref (ad 13), .int (S 0 14), .ref (ad 14), .ref (ad 15), .ref (ad 16), .ref (ad 17), .ref (ad 18), .ref (ad 19), .ref (ad 20), .ref (ad 21), .ref (ad 22), .ref (ad 23), .int (S 0 25)] : List Value).set 14 (.int v))) = wM cI cZ ad (up S 0 (upd (S 0) 14 v)) rest := rfl
theorem wM_f0_25 (cI cZ : ClassId) (ad : Nat → Nat) (S : St) (rest : va_W) (v : Int32) : (wM cI cZ ad S rest).set 0 (ad 0, .inr (6, ([.ref (ad 1), .ref (ad 2), .int (S 0 2), .ref (ad 3), .ref (ad 4), .ref (ad 5), .ref (ad 6), .ref (ad 7), .ref (ad 8), .ref (ad 9), .ref (ad 10), .ref (ad 11), .ref (ad 12), .ref (ad 13), .int (S 0 14), .ref (ad 14), .ref (ad 15), .ref (ad 16), .ref (ad 17), .ref (ad 18), .ref (ad 19), .ref (ad 20), .ref (ad 21), .ref (ad 22), .ref (ad 23), .int (S 0 25)] : List Value).set 25 (.int v))) = wM cI cZ ad (up S 0 (upd (S 0) 25 v)) rest := rfl
theorem wM_s1 (cI cZ : ClassId) (ad : Nat → Nat) (S : St) (rest : va_W) (g : Nat → Int32) : (wM cI cZ ad S rest).set 1 (ad 1, .inl (cI, 3, .inl g)) = wM cI cZ ad (up S 1 g) rest := rfl
theorem wM_s2 (cI cZ : ClassId) (ad : Nat → Nat) (S : St) (rest : va_W) (g : Nat → Int32) : (wM cI cZ ad S rest).set 2 (ad 2, .inl (cI, 3, .inl g)) = wM cI cZ ad (up S 2 g) rest := rfl
theorem wM_s3 (cI cZ : ClassId) (ad : Nat → Nat) (S : St) (rest : va_W) (g : Nat → Int32) : (wM cI cZ ad S rest).set 3 (ad 3, .inl (cI, 40, .inl g)) = wM cI cZ ad (up S 3 g) rest := rfl
theorem wM_s4 (cI cZ : ClassId) (ad : Nat → Nat) (S : St) (rest : va_W) (g : Nat → Int32) : (wM cI cZ ad S rest).set 4 (ad 4, .inl (cI, 40, .inl g)) = wM cI cZ ad (up S 4 g) rest := rfl
theorem wM_s5 (cI cZ : ClassId) (ad : Nat → Nat) (S : St) (rest : va_W) (g : Nat → Int32) : (wM cI cZ ad S rest).set 5 (ad 5, .inl (cI, 40, .inl g)) = wM cI cZ ad (up S 5 g) rest := rfl
theorem wM_s6 (cI cZ : ClassId) (ad : Nat → Nat) (S : St) (rest : va_W) (g : Nat → Int32) : (wM cI cZ ad S rest).set 6 (ad 6, .inl (cI, 40, .inl g)) = wM cI cZ ad (up S 6 g) rest := rfl
theorem wM_s7 (cI cZ : ClassId) (ad : Nat → Nat) (S : St) (rest : va_W) (g : Nat → Int32) : (wM cI cZ ad S rest).set 7 (ad 7, .inl (cI, 40, .inl g)) = wM cI cZ ad (up S 7 g) rest := rfl
theorem wM_s8 (cI cZ : ClassId) (ad : Nat → Nat) (S : St) (rest : va_W) (g : Nat → Int32) : (wM cI cZ ad S rest).set 8 (ad 8, .inl (cI, 40, .inl g)) = wM cI cZ ad (up S 8 g) rest := rfl
theorem wM_s9 (cI cZ : ClassId) (ad : Nat → Nat) (S : St) (rest : va_W) (g : Nat → Int32) : (wM cI cZ ad S rest).set 9 (ad 9, .inl (cI, 40, .inl g)) = wM cI cZ ad (up S 9 g) rest := rfl
theorem wM_s10 (cI cZ : ClassId) (ad : Nat → Nat) (S : St) (rest : va_W) (g : Nat → Int32) : (wM cI cZ ad S rest).set 10 (ad 10, .inl (cI, 40, .inl g)) = wM cI cZ ad (up S 10 g) rest := rfl
theorem wM_s11 (cI cZ : ClassId) (ad : Nat → Nat) (S : St) (rest : va_W) (g : Nat → Int32) : (wM cI cZ ad S rest).set 11 (ad 11, .inl (cI, 40, .inl g)) = wM cI cZ ad (up S 11 g) rest := rfl
theorem wM_s12 (cI cZ : ClassId) (ad : Nat → Nat) (S : St) (rest : va_W) (g : Nat → Int32) : (wM cI cZ ad S rest).set 12 (ad 12, .inl (cI, 126, .inl g)) = wM cI cZ ad (up S 12 g) rest := rfl
theorem wM_s13 (cI cZ : ClassId) (ad : Nat → Nat) (S : St) (rest : va_W) (g : Nat → Int32) : (wM cI cZ ad S rest).set 13 (ad 13, .inl (cZ, 42, .inl g)) = wM cI cZ ad (up S 13 g) rest := rfl
theorem wM_s14 (cI cZ : ClassId) (ad : Nat → Nat) (S : St) (rest : va_W) (g : Nat → Int32) : (wM cI cZ ad S rest).set 14 (ad 14, .inl (cI, 20, .inl g)) = wM cI cZ ad (up S 14 g) rest := rfl
theorem wM_s15 (cI cZ : ClassId) (ad : Nat → Nat) (S : St) (rest : va_W) (g : Nat → Int32) : (wM cI cZ ad S rest).set 15 (ad 15, .inl (cI, 20, .inl g)) = wM cI cZ ad (up S 15 g) rest := rfl
theorem wM_s16 (cI cZ : ClassId) (ad : Nat → Nat) (S : St) (rest : va_W) (g : Nat → Int32) : (wM cI cZ ad S rest).set 16 (ad 16, .inl (cI, 20, .inl g)) = wM cI cZ ad (up S 16 g) rest := rfl
theorem wM_s17 (cI cZ : ClassId) (ad : Nat → Nat) (S : St) (rest : va_W) (g : Nat → Int32) : (wM cI cZ ad S rest).set 17 (ad 17, .inl (cI, 20, .inl g)) = wM cI cZ ad (up S 17 g) rest := rfl
theorem wM_s18 (cI cZ : ClassId) (ad : Nat → Nat) (S : St) (rest : va_W) (g : Nat → Int32) : (wM cI cZ ad S rest).set 18 (ad 18, .inl (cZ, 42, .inl g)) = wM cI cZ ad (up S 18 g) rest := rfl
theorem wM_s19 (cI cZ : ClassId) (ad : Nat → Nat) (S : St) (rest : va_W) (g : Nat → Int32) : (wM cI cZ ad S rest).set 19 (ad 19, .inl (cI, 42, .inl g)) = wM cI cZ ad (up S 19 g) rest := rfl
theorem wM_s20 (cI cZ : ClassId) (ad : Nat → Nat) (S : St) (rest : va_W) (g : Nat → Int32) : (wM cI cZ ad S rest).set 20 (ad 20, .inl (cI, 42, .inl g)) = wM cI cZ ad (up S 20 g) rest := rfl
theorem wM_s21 (cI cZ : ClassId) (ad : Nat → Nat) (S : St) (rest : va_W) (g : Nat → Int32) : (wM cI cZ ad S rest).set 21 (ad 21, .inl (cI, 42, .inl g)) = wM cI cZ ad (up S 21 g) rest := rfl
theorem wM_s22 (cI cZ : ClassId) (ad : Nat → Nat) (S : St) (rest : va_W) (g : Nat → Int32) : (wM cI cZ ad S rest).set 22 (ad 22, .inl (cI, 168, .inl g)) = wM cI cZ ad (up S 22 g) rest := rfl
theorem wM_s23 (cI cZ : ClassId) (ad : Nat → Nat) (S : St) (rest : va_W) (g : Nat → Int32) : (wM cI cZ ad S rest).set 23 (ad 23, .inl (cI, 294, .inl g)) = wM cI cZ ad (up S 23 g) rest := rfl
/-! the two trees changed for each other -/
def sw (k : Nat) : Nat := bif Nat.blt k 7 then k + 7 else bif Nat.blt k 14 then k - 7 else k
def swA (ad : Nat → Nat) : Nat → Nat := fun k => ad (sw k)
def swS (S : St) : St := fun k => S (sw k)
theorem wE_sw {D : va_G} {cI cZ : ClassId} {ad : Nat → Nat} {S : St} {rest : va_W} : ∀ H : Heap, va_P D vwCl (wE cI cZ ad S rest) H → va_P D vwCl (wE cI cZ (swA ad) (swS S) rest) H := by
  intro H h k q hq
  have key : ∀ x ∈ wE cI cZ (swA ad) (swS S) rest, x ∈ wE cI cZ ad S rest := by
    intro x hx
    show x ∈ (wE cI cZ ad S []).take 7 ++ (((wE cI cZ ad S []).drop 7).take 7 ++ ((wE cI cZ ad S []).drop 14 ++ rest))
    have hx : x ∈ ((wE cI cZ ad S []).drop 7).take 7 ++ ((wE cI cZ ad S []).take 7 ++ ((wE cI cZ ad S []).drop 14 ++ rest)) := hx
    rcases List.mem_append.mp hx with h1 | h1
    · exact List.mem_append_right _ (List.mem_append_left _ h1)
    · rcases List.mem_append.mp h1 with h2 | h2
      · exact List.mem_append_left _ h2
      · exact List.mem_append_right _ (List.mem_append_right _ h2)
  obtain ⟨i, hi⟩ := List.getElem?_of_mem (key q (List.mem_of_getElem? hq))
  exact h i q hi
theorem wE_swD {A : Nat → Prop} {cI cZ : ClassId} {ad : Nat → Nat} {S : St} {rest : va_W} (h : va_D A (wE cI cZ ad S rest)) : va_D A (wE cI cZ (swA ad) (swS S) rest) := by
  have h1 : va_D A ((wE cI cZ ad S []).take 7 ++ (((wE cI cZ ad S []).drop 7).take 7 ++ ((wE cI cZ ad S []).drop 14 ++ rest))) := h
  show va_D A (((wE cI cZ ad S []).drop 7).take 7 ++ ((wE cI cZ ad S []).take 7 ++ ((wE cI cZ ad S []).drop 14 ++ rest)))
  exact va_D.perm (List.perm_append_comm_assoc _ _ _) h1
theorem wE_unsw {D : va_G} {cI cZ : ClassId} {ad : Nat → Nat} {S : St} {rest : va_W} : ∀ H : Heap, va_P D vwCl (wE cI cZ (swA ad) S rest) H → va_P D vwCl (wE cI cZ ad (swS S) rest) H := fun H h => wE_sw (ad := swA ad) H h
theorem wE_unswD {A : Nat → Prop} {cI cZ : ClassId} {ad : Nat → Nat} {S : St} {rest : va_W} (h : va_D A (wE cI cZ (swA ad) S rest)) : va_D A (wE cI cZ ad (swS S) rest) := wE_swD (ad := swA ad) h
theorem wE_unsw0 {D : va_G} {cI cZ : ClassId} {ad : Nat → Nat} {S : St} {rest : va_W} : ∀ H : Heap, va_P D vwCl (wE cI cZ (swA ad) (swS S) rest) H → va_P D vwCl (wE cI cZ ad S rest) H := fun H h => wE_sw (ad := swA ad) (S := swS S) H h
theorem wE_unsw0D {A : Nat → Prop} {cI cZ : ClassId} {ad : Nat → Nat} {S : St} {rest : va_W} (h : va_D A (wE cI cZ (swA ad) (swS S) rest)) : va_D A (wE cI cZ ad S rest) := wE_swD (ad := swA ad) (S := swS S) h
end
section
/-! EntryMasters.at([II)I -/
abbrev rm_X5_at : Room := { frames := 0, cells := 0, slots := 0, locals := 0 }
def X5_at_b17 (N : Nat) (f : Nat → Int32) (s0 : Int32) : Option (Int32) :=
  some s0
set_option maxHeartbeats 4000000 in
set_option maxRecDepth 100000 in
theorem X_X5_at_b17 {p : Program} {l : Launch} {e : Env} {s : State} {m : MethodId} {args : Array Value} {below : List Frame} {meth : Method} {c : Code} {D : va_G} {cI cZ cJ : ClassId} {w w0 : va_W} {q0 a N : Nat} (C : XC p rm_X5_at s m args meth c cX5_at 2 (some .int) RX5 wsX5_at D (t3 cI cZ cJ)) {f : Nat → Int32} {s0 : Int32} {r : Int32} (hw : w[q0]? = some (a, .inl (cI, N, .inl f))) (h : X5_at_b17 N f s0 = some r) : XW p l e rm_X5_at s m args below meth c D w0 2 (MQ below (QI D (t3 cI cZ cJ) w0 w s.heap.size r) args s 0 0 (va_A w0 s.heap.size)) w 0 0 17 [] [.int s0] := by
  unfold X5_at_b17 at h
  obtain rfl := Option.some.inj h
  exact x_iret C dX5_at_17
def X5_at_b16 (N : Nat) (f : Nat → Int32) : Option (Int32) :=
  X5_at_b17 N f (-1)
set_option maxHeartbeats 4000000 in
set_option maxRecDepth 100000 in
theorem X_X5_at_b16 {p : Program} {l : Launch} {e : Env} {s : State} {m : MethodId} {args : Array Value} {below : List Frame} {meth : Method} {c : Code} {D : va_G} {cI cZ cJ : ClassId} {w w0 : va_W} {q0 a N : Nat} (C : XC p rm_X5_at s m args meth c cX5_at 2 (some .int) RX5 wsX5_at D (t3 cI cZ cJ)) {f : Nat → Int32} {r : Int32} (hw : w[q0]? = some (a, .inl (cI, N, .inl f))) (h : X5_at_b16 N f = some r) : XW p l e rm_X5_at s m args below meth c D w0 2 (MQ below (QI D (t3 cI cZ cJ) w0 w s.heap.size r) args s 0 0 (va_A w0 s.heap.size)) w 0 0 16 [] [] := by
  unfold X5_at_b16 at h
  refine x_iconst C (v := (-1)) dX5_at_16 (by decide) ?_
  exact X_X5_at_b17 C hw h
def X5_at (N : Nat) (f : Nat → Int32) (x1 : Int32) : Option (Int32) :=
  if x1 < 0 then (X5_at_b16 N f) else (if (Int32.ofNat N) ≤ x1 then (X5_at_b16 N f) else (if inB x1 N then (X5_at_b17 N f (f x1.toNatClampNeg)) else none))
set_option maxHeartbeats 4000000 in
set_option maxRecDepth 100000 in
theorem X_X5_at {p : Program} {l : Launch} {e : Env} {s : State} {m : MethodId} {args : Array Value} {below : List Frame} {meth : Method} {c : Code} {D : va_G} {cI cZ cJ : ClassId} {w w0 : va_W} {q0 a N : Nat} (C : XC p rm_X5_at s m args meth c cX5_at 2 (some .int) RX5 wsX5_at D (t3 cI cZ cJ)) {f : Nat → Int32} {x1 : Int32} {r : Int32} (hw : w[q0]? = some (a, .inl (cI, N, .inl f))) (h : X5_at N f x1 = some r) : XW p l e rm_X5_at s m args below meth c D w0 2 (MQ below (QI D (t3 cI cZ cJ) w0 w s.heap.size r) args s 0 0 (va_A w0 s.heap.size)) w 0 0 0 [(0, .ref a), (1, .int x1)] [] := by
  unfold X5_at at h
  refine x_iload_n C 1 dX5_at_0 rfl ?_
  refine x_if_lt C (t := 16) dX5_at_1 (by decide) (fun c1 => ?_) (fun c1 => ?_)
  · replace h := (if_pos c1).symm.trans h
    refine x_locals (lv' := []) [] rfl ?_
    exact X_X5_at_b16 C hw h
  · replace h := (if_neg c1).symm.trans h
    refine x_iload_n C 1 dX5_at_4 rfl ?_
    refine x_aload_n C 0 dX5_at_5 rfl ?_
    refine x_alen C q0 0 hw rfl dX5_at_6 ?_
    refine x_icmp_ge C (t := 16) dX5_at_7 (by decide) (fun c7 => ?_) (fun c7 => ?_)
    · replace h := (if_pos c7).symm.trans h
      refine x_locals (lv' := []) [] rfl ?_
      exact X_X5_at_b16 C hw h
    · replace h := (if_neg c7).symm.trans h
      refine x_aload_n C 0 dX5_at_10 rfl ?_
      refine x_iload_n C 1 dX5_at_11 rfl ?_
      obtain ⟨g12, h⟩ := gdB h
      refine x_iald C q0 hw g12 dX5_at_12 ?_
      refine x_goto C (t := 17) dX5_at_13 (by decide) ?_
      refine x_locals (lv' := []) [] rfl ?_
      exact X_X5_at_b17 C hw h
set_option maxRecDepth 100000 in
theorem c_X5_at {l : Launch} {D : va_G} {cI cZ cJ : ClassId} {w : va_W} {a N : Nat} {f : Nat → Int32} {x1 : Int32} {r : Int32} (q0 : Nat) (hw : w[q0]? = some (a, .inl (cI, N, .inl f))) (h : X5_at N f x1 = some r) : ∀ sz, Met l yX5_at wsX5_at rm_X5_at (PC D (t3 cI cZ cJ) [.ref a, .int x1] w sz) (QI D (t3 cI cZ cJ) w w sz r) 0 0 (va_A w sz) := by
  refine x_met (Qc := fun sz => QI D (t3 cI cZ cJ) w w sz r) RX5 rfl (by decide) rfl (Nat.le_of_ble_eq_true rfl) (fun p e s m args below meth c C => ?_)
  exact X_X5_at C hw h
/-! EntryMasters.put([III)V -/
abbrev rm_X5_put : Room := { frames := 0, cells := 0, slots := 0, locals := 0 }
def X5_put_b14 (N : Nat) (f : Nat → Int32) : Option ((Nat → Int32)) :=
  some f
set_option maxHeartbeats 4000000 in
set_option maxRecDepth 100000 in
theorem X_X5_put_b14 {p : Program} {l : Launch} {e : Env} {s : State} {m : MethodId} {args : Array Value} {below : List Frame} {meth : Method} {c : Code} {D : va_G} {cI cZ cJ : ClassId} {w w0 : va_W} {q0 a N : Nat} (C : XC p rm_X5_put s m args meth c cX5_put 3 none RX5 wsX5_put D (t3 cI cZ cJ)) {f : Nat → Int32} {r : (Nat → Int32)} (hq : q0 < w.length) (h : X5_put_b14 N f = some r) : XW p l e rm_X5_put s m args below meth c D w0 3 (MQ below (QV D (t3 cI cZ cJ) w0 (w.set q0 (a, .inl (cI, N, .inl r))) s.heap.size) args s 0 0 (va_A w0 s.heap.size)) (w.set q0 (a, .inl (cI, N, .inl f))) 0 0 14 [] [] := by
  unfold X5_put_b14 at h
  obtain rfl := Option.some.inj h
  exact x_vret C dX5_put_14
def X5_put (N : Nat) (f : Nat → Int32) (x1 x2 : Int32) : Option ((Nat → Int32)) :=
  if x1 < 0 then (X5_put_b14 N f) else (if (Int32.ofNat N) ≤ x1 then (X5_put_b14 N f) else (if inB x1 N then (X5_put_b14 N (upd f x1.toNatClampNeg x2)) else none))
set_option maxHeartbeats 4000000 in
set_option maxRecDepth 100000 in
theorem X_X5_put {p : Program} {l : Launch} {e : Env} {s : State} {m : MethodId} {args : Array Value} {below : List Frame} {meth : Method} {c : Code} {D : va_G} {cI cZ cJ : ClassId} {w w0 : va_W} {q0 a N : Nat} (C : XC p rm_X5_put s m args meth c cX5_put 3 none RX5 wsX5_put D (t3 cI cZ cJ)) {f : Nat → Int32} {x1 x2 : Int32} {r : (Nat → Int32)} (hq : q0 < w.length) (h : X5_put N f x1 x2 = some r) : XW p l e rm_X5_put s m args below meth c D w0 3 (MQ below (QV D (t3 cI cZ cJ) w0 (w.set q0 (a, .inl (cI, N, .inl r))) s.heap.size) args s 0 0 (va_A w0 s.heap.size)) (w.set q0 (a, .inl (cI, N, .inl f))) 0 0 0 [(0, .ref a), (1, .int x1), (2, .int x2)] [] := by
  unfold X5_put at h
  refine x_iload_n C 1 dX5_put_0 rfl ?_
  refine x_if_lt C (t := 14) dX5_put_1 (by decide) (fun c1 => ?_) (fun c1 => ?_)
  · replace h := (if_pos c1).symm.trans h
    refine x_locals (lv' := []) [] rfl ?_
    exact X_X5_put_b14 C hq h
  · replace h := (if_neg c1).symm.trans h
    refine x_iload_n C 1 dX5_put_4 rfl ?_
    refine x_aload_n C 0 dX5_put_5 rfl ?_
    refine x_alen C q0 0 (set_at hq) rfl dX5_put_6 ?_
    refine x_icmp_ge C (t := 14) dX5_put_7 (by decide) (fun c7 => ?_) (fun c7 => ?_)
    · replace h := (if_pos c7).symm.trans h
      refine x_locals (lv' := []) [] rfl ?_
      exact X_X5_put_b14 C hq h
    · replace h := (if_neg c7).symm.trans h
      refine x_aload_n C 0 dX5_put_10 rfl ?_
      refine x_iload_n C 1 dX5_put_11 rfl ?_
      refine x_iload_n C 2 dX5_put_12 rfl ?_
      obtain ⟨g13, h⟩ := gdB h
      refine x_iast C q0 (set_at hq) g13 dX5_put_13 set_two ?_
      refine x_locals (lv' := []) [] rfl ?_
      exact X_X5_put_b14 C hq h
set_option maxRecDepth 100000 in
theorem c_X5_put {l : Launch} {D : va_G} {cI cZ cJ : ClassId} {w : va_W} {a N : Nat} {f : Nat → Int32} {x1 x2 : Int32} {r : (Nat → Int32)} (q0 : Nat) (hw : w[q0]? = some (a, .inl (cI, N, .inl f))) (h : X5_put N f x1 x2 = some r) : ∀ sz, Met l yX5_put wsX5_put rm_X5_put (PC D (t3 cI cZ cJ) [.ref a, .int x1, .int x2] w sz) (QV D (t3 cI cZ cJ) w (w.set q0 (a, .inl (cI, N, .inl r))) sz) 0 0 (va_A w sz) := by
  refine x_met (Qc := fun sz => QV D (t3 cI cZ cJ) w (w.set q0 (a, .inl (cI, N, .inl r))) sz) RX5 rfl (by decide) rfl (Nat.le_of_ble_eq_true rfl) (fun p e s m args below meth c C => ?_)
  refine x_eqw (set_self hw).symm ?_
  exact X_X5_put C (lt_of_at hw) h
/-! java/util/Arrays.fill([II)V -/
abbrev rm_J7_fill_53178 : Room := { frames := 0, cells := 0, slots := 0, locals := 0 }
def J7_fill_53178_b20 (N : Nat) (f : Nat → Int32) : Option ((Nat → Int32)) :=
  some f
set_option maxHeartbeats 4000000 in
set_option maxRecDepth 100000 in
theorem X_J7_fill_53178_b20 {p : Program} {l : Launch} {e : Env} {s : State} {m : MethodId} {args : Array Value} {below : List Frame} {meth : Method} {c : Code} {D : va_G} {cI cZ cJ : ClassId} {w w0 : va_W} {q0 a N : Nat} (C : XC p rm_J7_fill_53178 s m args meth c cJ7_fill_53178 4 none RJ7 wsJ7_fill_53178 D (t3 cI cZ cJ)) {f : Nat → Int32} {r : (Nat → Int32)} (hq : q0 < w.length) (h : J7_fill_53178_b20 N f = some r) : XW p l e rm_J7_fill_53178 s m args below meth c D w0 4 (MQ below (QV D (t3 cI cZ cJ) w0 (w.set q0 (a, .inl (cI, N, .inl r))) s.heap.size) args s 0 0 (va_A w0 s.heap.size)) (w.set q0 (a, .inl (cI, N, .inl f))) 0 0 20 [] [] := by
  unfold J7_fill_53178_b20 at h
  obtain rfl := Option.some.inj h
  exact x_vret C dJ7_fill_53178_20
def J7_fill_53178_b14 (N : Nat) (f : Nat → Int32) (x1 x2 x3 : Int32) : Option (((Nat → Int32) × Int32 × Int32 × Int32) ⊕ ((Nat → Int32))) :=
  some (.inl (f, x1, x2 + 1, x3))
set_option maxHeartbeats 4000000 in
set_option maxRecDepth 100000 in
theorem X_J7_fill_53178_b14 {p : Program} {l : Launch} {e : Env} {s : State} {m : MethodId} {args : Array Value} {below : List Frame} {meth : Method} {c : Code} {D : va_G} {cI cZ cJ : ClassId} {w w0 : va_W} {q0 a N : Nat} (C : XC p rm_J7_fill_53178 s m args meth c cJ7_fill_53178 4 none RJ7 wsJ7_fill_53178 D (t3 cI cZ cJ)) {f : Nat → Int32} {x1 x2 x3 : Int32} {z : ((Nat → Int32) × Int32 × Int32 × Int32) ⊕ ((Nat → Int32))} {r : (Nat → Int32)} (hq : q0 < w.length) (h : J7_fill_53178_b14 N f x1 x2 x3 = some z) (hk : ∀ a' : ((Nat → Int32) × Int32 × Int32 × Int32), z = .inl a' → XW p l e rm_J7_fill_53178 s m args below meth c D w0 4 (MQ below (QV D (t3 cI cZ cJ) w0 (w.set q0 (a, .inl (cI, N, .inl r))) s.heap.size) args s 0 0 (va_A w0 s.heap.size)) (w.set q0 (a, .inl (cI, N, .inl a'.1))) 0 0 5 [(0, .ref a), (1, .int a'.2.1), (2, .int a'.2.2.1), (3, .int a'.2.2.2)] []) (hr : ∀ r', z = .inr r' → r' = r) : XW p l e rm_J7_fill_53178 s m args below meth c D w0 4 (MQ below (QV D (t3 cI cZ cJ) w0 (w.set q0 (a, .inl (cI, N, .inl r))) s.heap.size) args s 0 0 (va_A w0 s.heap.size)) (w.set q0 (a, .inl (cI, N, .inl f))) 0 0 14 [(0, .ref a), (1, .int x1), (2, .int x2), (3, .int x3)] [] := by
  unfold J7_fill_53178_b14 at h
  refine x_iinc C (v := x2 + 1) (lv' := [(0, .ref a), (1, .int x1), (2, .int (x2 + 1)), (3, .int x3)]) 2 dJ7_fill_53178_14 rfl rfl (by decide) rfl ?_
  refine x_goto C (t := 5) dJ7_fill_53178_17 (by decide) ?_
  exact hk _ (Option.some.inj h).symm
def J7_fill_53178_H5 (N : Nat) (f : Nat → Int32) (x1 x2 x3 : Int32) : Option (((Nat → Int32) × Int32 × Int32 × Int32) ⊕ ((Nat → Int32))) :=
  if x3 ≤ x2 then (exI (J7_fill_53178_b20 N f)) else (if inB x2 N then (J7_fill_53178_b14 N (upd f x2.toNatClampNeg x1) x1 x2 x3) else none)
set_option maxHeartbeats 4000000 in
set_option maxRecDepth 100000 in
theorem X_J7_fill_53178_H5 {p : Program} {l : Launch} {e : Env} {s : State} {m : MethodId} {args : Array Value} {below : List Frame} {meth : Method} {c : Code} {D : va_G} {cI cZ cJ : ClassId} {w w0 : va_W} {q0 a N : Nat} (C : XC p rm_J7_fill_53178 s m args meth c cJ7_fill_53178 4 none RJ7 wsJ7_fill_53178 D (t3 cI cZ cJ)) {f : Nat → Int32} {x1 x2 x3 : Int32} {z : ((Nat → Int32) × Int32 × Int32 × Int32) ⊕ ((Nat → Int32))} {r : (Nat → Int32)} (hq : q0 < w.length) (h : J7_fill_53178_H5 N f x1 x2 x3 = some z) (hk : ∀ a' : ((Nat → Int32) × Int32 × Int32 × Int32), z = .inl a' → XW p l e rm_J7_fill_53178 s m args below meth c D w0 4 (MQ below (QV D (t3 cI cZ cJ) w0 (w.set q0 (a, .inl (cI, N, .inl r))) s.heap.size) args s 0 0 (va_A w0 s.heap.size)) (w.set q0 (a, .inl (cI, N, .inl a'.1))) 0 0 5 [(0, .ref a), (1, .int a'.2.1), (2, .int a'.2.2.1), (3, .int a'.2.2.2)] []) (hr : ∀ r', z = .inr r' → r' = r) : XW p l e rm_J7_fill_53178 s m args below meth c D w0 4 (MQ below (QV D (t3 cI cZ cJ) w0 (w.set q0 (a, .inl (cI, N, .inl r))) s.heap.size) args s 0 0 (va_A w0 s.heap.size)) (w.set q0 (a, .inl (cI, N, .inl f))) 0 0 5 [(0, .ref a), (1, .int x1), (2, .int x2), (3, .int x3)] [] := by
  unfold J7_fill_53178_H5 at h
  refine x_iload_n C 2 dJ7_fill_53178_5 rfl ?_
  refine x_iload_n C 3 dJ7_fill_53178_6 rfl ?_
  refine x_icmp_ge C (t := 20) dJ7_fill_53178_7 (by decide) (fun c7 => ?_) (fun c7 => ?_)
  · replace h := (if_pos c7).symm.trans h
    refine x_locals (lv' := []) [] rfl ?_
    obtain ⟨r1, h1, h2⟩ := exI_some h
    obtain rfl := hr r1 h2
    exact X_J7_fill_53178_b20 C hq h1
  · replace h := (if_neg c7).symm.trans h
    refine x_aload_n C 0 dJ7_fill_53178_10 rfl ?_
    refine x_iload_n C 2 dJ7_fill_53178_11 rfl ?_
    refine x_iload_n C 1 dJ7_fill_53178_12 rfl ?_
    obtain ⟨g13, h⟩ := gdB h
    refine x_iast C q0 (set_at hq) g13 dJ7_fill_53178_13 set_two ?_
    exact X_J7_fill_53178_b14 C hq h hk hr
def J7_fill_53178_L5 (N : Nat) (f : Nat → Int32) (x1 x2 x3 : Int32) : Option ((Nat → Int32)) := wloop (fun a' : ((Nat → Int32) × Int32 × Int32 × Int32) => J7_fill_53178_H5 N a'.1 a'.2.1 a'.2.2.1 a'.2.2.2) 1000 (f, x1, x2, x3)
set_option maxHeartbeats 4000000 in
set_option maxRecDepth 100000 in
theorem X_J7_fill_53178_L5 {p : Program} {l : Launch} {e : Env} {s : State} {m : MethodId} {args : Array Value} {below : List Frame} {meth : Method} {c : Code} {D : va_G} {cI cZ cJ : ClassId} {w w0 : va_W} {q0 a N : Nat} (C : XC p rm_J7_fill_53178 s m args meth c cJ7_fill_53178 4 none RJ7 wsJ7_fill_53178 D (t3 cI cZ cJ)) {f : Nat → Int32} {x1 x2 x3 : Int32} {r : (Nat → Int32)} (hq : q0 < w.length) (h : J7_fill_53178_L5 N f x1 x2 x3 = some r) : XW p l e rm_J7_fill_53178 s m args below meth c D w0 4 (MQ below (QV D (t3 cI cZ cJ) w0 (w.set q0 (a, .inl (cI, N, .inl r))) s.heap.size) args s 0 0 (va_A w0 s.heap.size)) (w.set q0 (a, .inl (cI, N, .inl f))) 0 0 5 [(0, .ref a), (1, .int x1), (2, .int x2), (3, .int x3)] [] :=
  wloop_met (P := (fun a' : ((Nat → Int32) × Int32 × Int32 × Int32) => XW p l e rm_J7_fill_53178 s m args below meth c D w0 4 (MQ below (QV D (t3 cI cZ cJ) w0 (w.set q0 (a, .inl (cI, N, .inl r))) s.heap.size) args s 0 0 (va_A w0 s.heap.size)) (w.set q0 (a, .inl (cI, N, .inl a'.1))) 0 0 5 [(0, .ref a), (1, .int a'.2.1), (2, .int a'.2.2.1), (3, .int a'.2.2.2)] [])) (fun _ _ hz hk hr => X_J7_fill_53178_H5 C hq hz hk hr) 1000 (f, x1, x2, x3) h
def J7_fill_53178 (N : Nat) (f : Nat → Int32) (x1 : Int32) : Option ((Nat → Int32)) :=
  J7_fill_53178_L5 N f x1 0 (Int32.ofNat N)
set_option maxHeartbeats 4000000 in
set_option maxRecDepth 100000 in
theorem X_J7_fill_53178 {p : Program} {l : Launch} {e : Env} {s : State} {m : MethodId} {args : Array Value} {below : List Frame} {meth : Method} {c : Code} {D : va_G} {cI cZ cJ : ClassId} {w w0 : va_W} {q0 a N : Nat} (C : XC p rm_J7_fill_53178 s m args meth c cJ7_fill_53178 4 none RJ7 wsJ7_fill_53178 D (t3 cI cZ cJ)) {f : Nat → Int32} {x1 : Int32} {r : (Nat → Int32)} (hq : q0 < w.length) (h : J7_fill_53178 N f x1 = some r) : XW p l e rm_J7_fill_53178 s m args below meth c D w0 4 (MQ below (QV D (t3 cI cZ cJ) w0 (w.set q0 (a, .inl (cI, N, .inl r))) s.heap.size) args s 0 0 (va_A w0 s.heap.size)) (w.set q0 (a, .inl (cI, N, .inl f))) 0 0 0 [(0, .ref a), (1, .int x1)] [] := by
  unfold J7_fill_53178 at h
  refine x_iconst C (v := 0) dJ7_fill_53178_0 (by decide) ?_
  refine x_istore_n C (lv' := [(0, .ref a), (1, .int x1), (2, .int 0)]) dJ7_fill_53178_1 (by decide) rfl ?_
  refine x_aload_n C 0 dJ7_fill_53178_2 rfl ?_
  refine x_alen C q0 0 (set_at hq) rfl dJ7_fill_53178_3 ?_
  refine x_istore_n C (lv' := [(0, .ref a), (1, .int x1), (2, .int 0), (3, .int (Int32.ofNat N))]) dJ7_fill_53178_4 (by decide) rfl ?_
  exact X_J7_fill_53178_L5 C hq h
set_option maxRecDepth 100000 in
theorem c_J7_fill_53178 {l : Launch} {D : va_G} {cI cZ cJ : ClassId} {w : va_W} {a N : Nat} {f : Nat → Int32} {x1 : Int32} {r : (Nat → Int32)} (q0 : Nat) (hw : w[q0]? = some (a, .inl (cI, N, .inl f))) (h : J7_fill_53178 N f x1 = some r) : ∀ sz, Met l yJ7_fill_53178 wsJ7_fill_53178 rm_J7_fill_53178 (PC D (t3 cI cZ cJ) [.ref a, .int x1] w sz) (QV D (t3 cI cZ cJ) w (w.set q0 (a, .inl (cI, N, .inl r))) sz) 0 0 (va_A w sz) := by
  refine x_met (Qc := fun sz => QV D (t3 cI cZ cJ) w (w.set q0 (a, .inl (cI, N, .inl r))) sz) RJ7 rfl (by decide) rfl (Nat.le_of_ble_eq_true rfl) (fun p e s m args below meth c C => ?_)
  refine x_eqw (set_self hw).symm ?_
  exact X_J7_fill_53178 C (lt_of_at hw) h
/-! EntryMasters$Tree.has(I)Z -/
abbrev rm_X4_has : Room := { frames := 0, cells := 0, slots := 0, locals := 0 }
theorem hi_X4_has_4 : ∀ z ∈ u_ws RX4 TX4 11, z ∈ wsX4_has := by decide +kernel
theorem lk_X4_has_15 : Cond.fieldLink RX4 15 RX4 "there" "[Z" ∈ wsX4_has := by decide +kernel
def X4_has_b24 (S : St) (s0 : Int32) : Option (Int32) :=
  if s0 &&& 1 = s0 then (some s0) else none
set_option maxHeartbeats 4000000 in
set_option maxRecDepth 100000 in
theorem X_X4_has_b24 {p : Program} {l : Launch} {e : Env} {s : State} {m : MethodId} {args : Array Value} {below : List Frame} {meth : Method} {c : Code} {D : va_G} {cI cZ cJ : ClassId} {ad : Nat → Nat} {rest w0 : va_W} (C : XC p rm_X4_has s m args meth c cX4_has 2 (some .boolean) RX4 wsX4_has D (t3 cI cZ cJ)) {S : St} {s0 : Int32} {r : Int32} (h : X4_has_b24 S s0 = some r) : XW p l e rm_X4_has s m args below meth c D w0 2 (MQ below (QI D (t3 cI cZ cJ) w0 (wE cI cZ ad S rest) s.heap.size r) args s 0 0 (va_A w0 s.heap.size)) (wE cI cZ ad S rest) 0 0 24 [] [.int s0] := by
  unfold X4_has_b24 at h
  obtain ⟨g24, h⟩ := gd h
  obtain rfl := Option.some.inj h
  exact x_zret C g24 dX4_has_24
def X4_has_b23 (S : St) : Option (Int32) :=
  X4_has_b24 S 0
set_option maxHeartbeats 4000000 in
set_option maxRecDepth 100000 in
theorem X_X4_has_b23 {p : Program} {l : Launch} {e : Env} {s : State} {m : MethodId} {args : Array Value} {below : List Frame} {meth : Method} {c : Code} {D : va_G} {cI cZ cJ : ClassId} {ad : Nat → Nat} {rest w0 : va_W} (C : XC p rm_X4_has s m args meth c cX4_has 2 (some .boolean) RX4 wsX4_has D (t3 cI cZ cJ)) {S : St} {r : Int32} (h : X4_has_b23 S = some r) : XW p l e rm_X4_has s m args below meth c D w0 2 (MQ below (QI D (t3 cI cZ cJ) w0 (wE cI cZ ad S rest) s.heap.size r) args s 0 0 (va_A w0 s.heap.size)) (wE cI cZ ad S rest) 0 0 23 [] [] := by
  unfold X4_has_b23 at h
  refine x_iconst C (v := 0) dX4_has_23 (by decide) ?_
  exact X_X4_has_b24 C h
def X4_has (S : St) (x1 : Int32) : Option (Int32) :=
  if x1 < 0 then (X4_has_b23 S) else (if 42 ≤ x1 then (X4_has_b23 S) else (if inB x1 42 then (if (S 2 x1.toNatClampNeg) = 0 then (X4_has_b23 S) else (X4_has_b24 S 1)) else none))
set_option maxHeartbeats 4000000 in
set_option maxRecDepth 100000 in
theorem X_X4_has {p : Program} {l : Launch} {e : Env} {s : State} {m : MethodId} {args : Array Value} {below : List Frame} {meth : Method} {c : Code} {D : va_G} {cI cZ cJ : ClassId} {ad : Nat → Nat} {rest w0 : va_W} (C : XC p rm_X4_has s m args meth c cX4_has 2 (some .boolean) RX4 wsX4_has D (t3 cI cZ cJ)) {S : St} {x1 : Int32} {r : Int32} (h : X4_has S x1 = some r) : XW p l e rm_X4_has s m args below meth c D w0 2 (MQ below (QI D (t3 cI cZ cJ) w0 (wE cI cZ ad S rest) s.heap.size r) args s 0 0 (va_A w0 s.heap.size)) (wE cI cZ ad S rest) 0 0 0 [(0, .ref (ad 0)), (1, .int x1)] [] := by
  unfold X4_has at h
  refine x_iload_n C 1 dX4_has_0 rfl ?_
  refine x_if_lt C (t := 23) dX4_has_1 (by decide) (fun c1 => ?_) (fun c1 => ?_)
  · replace h := (if_pos c1).symm.trans h
    refine x_locals (lv' := []) [] rfl ?_
    exact X_X4_has_b23 C h
  · replace h := (if_neg c1).symm.trans h
    refine x_iload_n C 1 dX4_has_4 rfl ?_
    refine x_bipush C (v := 42) dX4_has_5 (by decide) ?_
    refine x_icmp_ge C (t := 23) dX4_has_7 (by decide) (fun c7 => ?_) (fun c7 => ?_)
    · replace h := (if_pos c7).symm.trans h
      refine x_locals (lv' := []) [] rfl ?_
      exact X_X4_has_b23 C h
    · replace h := (if_neg c7).symm.trans h
      refine x_aload_n C 0 dX4_has_10 rfl ?_
      refine x_get C (R' := RX4) (T := TX4) (N := 11) (ci := 4) 0 5 rfl rfl (by decide) rfl rfl hi_X4_has_4 lk_X4_has_15 dX4_has_11 ?_
      refine x_iload_n C 1 dX4_has_14 rfl ?_
      obtain ⟨g15, h⟩ := gdB h
      refine x_zald C 2 rfl g15 dX4_has_15 ?_
      refine x_if_eq C (t := 23) dX4_has_16 (by decide) (fun c16 => ?_) (fun c16 => ?_)
      · replace h := (if_pos c16).symm.trans h
        refine x_locals (lv' := []) [] rfl ?_
        exact X_X4_has_b23 C h
      · replace h := (if_neg c16).symm.trans h
        refine x_iconst C (v := 1) dX4_has_19 (by decide) ?_
        refine x_goto C (t := 24) dX4_has_20 (by decide) ?_
        refine x_locals (lv' := []) [] rfl ?_
        exact X_X4_has_b24 C h
set_option maxRecDepth 100000 in
theorem c_X4_has {l : Launch} {D : va_G} {cI cZ cJ : ClassId} {ad : Nat → Nat} {S : St} {rest : va_W} {x1 : Int32} {r : Int32} (h : X4_has S x1 = some r) : ∀ sz, Met l yX4_has wsX4_has rm_X4_has (PC D (t3 cI cZ cJ) [.ref (ad 0), .int x1] (wE cI cZ ad S rest) sz) (QI D (t3 cI cZ cJ) (wE cI cZ ad S rest) (wE cI cZ ad S rest) sz r) 0 0 (va_A (wE cI cZ ad S rest) sz) := by
  refine x_met (Qc := fun sz => QI D (t3 cI cZ cJ) (wE cI cZ ad S rest) (wE cI cZ ad S rest) sz r) RX4 rfl (by decide) rfl (Nat.le_of_ble_eq_true rfl) (fun p e s m args below meth c C => ?_)
  exact X_X4_has C h
/-! EntryMasters$Tree.areLike(II)Z -/
abbrev rm_X4_areLike : Room := { frames := 0, cells := 0, slots := 0, locals := 0 }
def X4_areLike_b26  (s0 : Int32) : Option (Int32) :=
  if s0 &&& 1 = s0 then (some s0) else none
set_option maxHeartbeats 4000000 in
set_option maxRecDepth 100000 in
theorem X_X4_areLike_b26 {p : Program} {l : Launch} {e : Env} {s : State} {m : MethodId} {args : Array Value} {below : List Frame} {meth : Method} {c : Code} {D : va_G} {cI cZ cJ : ClassId} {w w0 : va_W} (C : XC p rm_X4_areLike s m args meth c cX4_areLike 2 (some .boolean) RX4 wsX4_areLike D (t3 cI cZ cJ)) {s0 : Int32} {r : Int32} (h : X4_areLike_b26 s0 = some r) : XW p l e rm_X4_areLike s m args below meth c D w0 2 (MQ below (QI D (t3 cI cZ cJ) w0 w s.heap.size r) args s 0 0 (va_A w0 s.heap.size)) w 0 0 26 [] [.int s0] := by
  unfold X4_areLike_b26 at h
  obtain ⟨g26, h⟩ := gd h
  obtain rfl := Option.some.inj h
  exact x_zret C g26 dX4_areLike_26
def X4_areLike_b25  : Option (Int32) :=
  X4_areLike_b26 0
set_option maxHeartbeats 4000000 in
set_option maxRecDepth 100000 in
theorem X_X4_areLike_b25 {p : Program} {l : Launch} {e : Env} {s : State} {m : MethodId} {args : Array Value} {below : List Frame} {meth : Method} {c : Code} {D : va_G} {cI cZ cJ : ClassId} {w w0 : va_W} (C : XC p rm_X4_areLike s m args meth c cX4_areLike 2 (some .boolean) RX4 wsX4_areLike D (t3 cI cZ cJ)) {r : Int32} (h : X4_areLike_b25  = some r) : XW p l e rm_X4_areLike s m args below meth c D w0 2 (MQ below (QI D (t3 cI cZ cJ) w0 w s.heap.size r) args s 0 0 (va_A w0 s.heap.size)) w 0 0 25 [] [] := by
  unfold X4_areLike_b25 at h
  refine x_iconst C (v := 0) dX4_areLike_25 (by decide) ?_
  exact X_X4_areLike_b26 C h
def X4_areLike  (x0 x1 : Int32) : Option (Int32) :=
  if x0 = (-1) then (X4_areLike_b25) else (if x1 = (-1) then (X4_areLike_b25) else (if (x0 - x0 / 50 * 50) = (x1 - x1 / 50 * 50) then (X4_areLike_b26 1) else (X4_areLike_b25)))
set_option maxHeartbeats 4000000 in
set_option maxRecDepth 100000 in
theorem X_X4_areLike {p : Program} {l : Launch} {e : Env} {s : State} {m : MethodId} {args : Array Value} {below : List Frame} {meth : Method} {c : Code} {D : va_G} {cI cZ cJ : ClassId} {w w0 : va_W} (C : XC p rm_X4_areLike s m args meth c cX4_areLike 2 (some .boolean) RX4 wsX4_areLike D (t3 cI cZ cJ)) {x0 x1 : Int32} {r : Int32} (h : X4_areLike x0 x1 = some r) : XW p l e rm_X4_areLike s m args below meth c D w0 2 (MQ below (QI D (t3 cI cZ cJ) w0 w s.heap.size r) args s 0 0 (va_A w0 s.heap.size)) w 0 0 0 [(0, .int x0), (1, .int x1)] [] := by
  unfold X4_areLike at h
  refine x_iload_n C 0 dX4_areLike_0 rfl ?_
  refine x_iconst C (v := (-1)) dX4_areLike_1 (by decide) ?_
  refine x_icmp_eq C (t := 25) dX4_areLike_2 (by decide) (fun c2 => ?_) (fun c2 => ?_)
  · replace h := (if_pos c2).symm.trans h
    refine x_locals (lv' := []) [] rfl ?_
    exact X_X4_areLike_b25 C h
  · replace h := (if_neg c2).symm.trans h
    refine x_iload_n C 1 dX4_areLike_5 rfl ?_
    refine x_iconst C (v := (-1)) dX4_areLike_6 (by decide) ?_
    refine x_icmp_eq C (t := 25) dX4_areLike_7 (by decide) (fun c7 => ?_) (fun c7 => ?_)
    · replace h := (if_pos c7).symm.trans h
      refine x_locals (lv' := []) [] rfl ?_
      exact X_X4_areLike_b25 C h
    · replace h := (if_neg c7).symm.trans h
      refine x_iload_n C 0 dX4_areLike_10 rfl ?_
      refine x_bipush C (v := 50) dX4_areLike_11 (by decide) ?_
      refine x_irem C dX4_areLike_13 (by decide) ?_
      refine x_iload_n C 1 dX4_areLike_14 rfl ?_
      refine x_bipush C (v := 50) dX4_areLike_15 (by decide) ?_
      refine x_irem C dX4_areLike_17 (by decide) ?_
      refine x_icmp_ne C (t := 25) dX4_areLike_18 (by decide) (fun c18 => ?_) (fun c18 => ?_)
      · replace h := (if_neg c18).symm.trans h
        refine x_locals (lv' := []) [] rfl ?_
        exact X_X4_areLike_b25 C h
      · replace h := (if_pos c18).symm.trans h
        refine x_iconst C (v := 1) dX4_areLike_21 (by decide) ?_
        refine x_goto C (t := 26) dX4_areLike_22 (by decide) ?_
        refine x_locals (lv' := []) [] rfl ?_
        exact X_X4_areLike_b26 C h
set_option maxRecDepth 100000 in
theorem c_X4_areLike {l : Launch} {D : va_G} {cI cZ cJ : ClassId} {w : va_W} {x0 x1 : Int32} {r : Int32} (h : X4_areLike x0 x1 = some r) : ∀ sz, Met l yX4_areLike wsX4_areLike rm_X4_areLike (PC D (t3 cI cZ cJ) [.int x0, .int x1] w sz) (QI D (t3 cI cZ cJ) w w sz r) 0 0 (va_A w sz) := by
  refine x_met (Qc := fun sz => QI D (t3 cI cZ cJ) w w sz r) RX4 rfl (by decide) rfl (Nat.le_of_ble_eq_true rfl) (fun p e s m args below meth c C => ?_)
  exact X_X4_areLike C h
/-! EntryMasters$Tree.childWithLabelLike(III)I -/
abbrev rm_X4_childWithLabelLike : Room := { frames := 1, cells := 0, slots := 0, locals := 21 }
theorem hi_X4_childWithLabelLike_4 : ∀ z ∈ u_ws RX4 TX4 11, z ∈ wsX4_childWithLabelLike := by decide +kernel
theorem lk_X4_childWithLabelLike_19 : Cond.fieldLink RX4 19 RX4 "parents" "[I" ∈ wsX4_childWithLabelLike := by decide +kernel
theorem lk_X4_childWithLabelLike_22 : Cond.fieldLink RX4 22 RX4 "labels" "[I" ∈ wsX4_childWithLabelLike := by decide +kernel
theorem cw_X4_childWithLabelLike_X4_areLike_148 {p : Program} {s : State} {m : MethodId} {args : Array Value} {meth : Method} {c : Code} {D : va_G} {tys : List (ClassId × FieldType)} {R : Room} (C : XC p R s m args meth c cX4_childWithLabelLike 5 (some .int) RX4 wsX4_childWithLabelLike D tys) : CallB rm_X4_childWithLabelLike s args RX4 148 yX4_areLike cX4_areLike 2 (some .boolean) wsX4_areLike rm_X4_areLike 0 0 2 ∧ (Cond.static yX4_areLike).before args s = true := va_cwS 2 C.2.2.2.2.1 gX4_childWithLabelLike_X4_areLike rfl rfl rfl (by decide +kernel) ⟨Nat.le_of_ble_eq_true rfl, Nat.le_of_ble_eq_true rfl⟩
def X4_childWithLabelLike_b50 (S : St) : Option (Int32) :=
  some (-1)
set_option maxHeartbeats 4000000 in
set_option maxRecDepth 100000 in
theorem X_X4_childWithLabelLike_b50 {p : Program} {l : Launch} {e : Env} {s : State} {m : MethodId} {args : Array Value} {below : List Frame} {meth : Method} {c : Code} {D : va_G} {cI cZ cJ : ClassId} {ad : Nat → Nat} {rest w0 : va_W} (C : XC p rm_X4_childWithLabelLike s m args meth c cX4_childWithLabelLike 5 (some .int) RX4 wsX4_childWithLabelLike D (t3 cI cZ cJ)) {S : St} {r : Int32} (h : X4_childWithLabelLike_b50 S = some r) : XW p l e rm_X4_childWithLabelLike s m args below meth c D w0 5 (MQ below (QI D (t3 cI cZ cJ) w0 (wE cI cZ ad S rest) s.heap.size r) args s 0 0 (va_A w0 s.heap.size)) (wE cI cZ ad S rest) 0 0 50 [] [] := by
  unfold X4_childWithLabelLike_b50 at h
  refine x_iconst C (v := (-1)) dX4_childWithLabelLike_50 (by decide) ?_
  obtain rfl := Option.some.inj h
  exact x_iret C dX4_childWithLabelLike_51
def X4_childWithLabelLike_b44 (S : St) (x1 x2 x3 x4 : Int32) : Option ((Int32 × Int32 × Int32 × Int32) ⊕ (Int32)) :=
  some (.inl (x1, x2, x3, x4 + 1))
set_option maxHeartbeats 4000000 in
set_option maxRecDepth 100000 in
theorem X_X4_childWithLabelLike_b44 {p : Program} {l : Launch} {e : Env} {s : State} {m : MethodId} {args : Array Value} {below : List Frame} {meth : Method} {c : Code} {D : va_G} {cI cZ cJ : ClassId} {ad : Nat → Nat} {rest w0 : va_W} (C : XC p rm_X4_childWithLabelLike s m args meth c cX4_childWithLabelLike 5 (some .int) RX4 wsX4_childWithLabelLike D (t3 cI cZ cJ)) {S : St} {x1 x2 x3 x4 : Int32} {z : (Int32 × Int32 × Int32 × Int32) ⊕ (Int32)} {r : Int32} (h : X4_childWithLabelLike_b44 S x1 x2 x3 x4 = some z) (hk : ∀ a' : (Int32 × Int32 × Int32 × Int32), z = .inl a' → XW p l e rm_X4_childWithLabelLike s m args below meth c D w0 5 (MQ below (QI D (t3 cI cZ cJ) w0 (wE cI cZ ad S rest) s.heap.size r) args s 0 0 (va_A w0 s.heap.size)) (wE cI cZ ad S rest) 0 0 3 [(0, .ref (ad 0)), (1, .int a'.1), (2, .int a'.2.1), (3, .int a'.2.2.1), (4, .int a'.2.2.2)] []) (hr : ∀ r', z = .inr r' → r' = r) : XW p l e rm_X4_childWithLabelLike s m args below meth c D w0 5 (MQ below (QI D (t3 cI cZ cJ) w0 (wE cI cZ ad S rest) s.heap.size r) args s 0 0 (va_A w0 s.heap.size)) (wE cI cZ ad S rest) 0 0 44 [(0, .ref (ad 0)), (1, .int x1), (2, .int x2), (3, .int x3), (4, .int x4)] [] := by
  unfold X4_childWithLabelLike_b44 at h
  refine x_iinc C (v := x4 + 1) (lv' := [(0, .ref (ad 0)), (1, .int x1), (2, .int x2), (3, .int x3), (4, .int (x4 + 1))]) 4 dX4_childWithLabelLike_44 rfl rfl (by decide) rfl ?_
  refine x_goto C (t := 3) dX4_childWithLabelLike_47 (by decide) ?_
  exact hk _ (Option.some.inj h).symm
def X4_childWithLabelLike_b41 (S : St) (x4 : Int32) : Option (Int32) :=
  some x4
set_option maxHeartbeats 4000000 in
set_option maxRecDepth 100000 in
theorem X_X4_childWithLabelLike_b41 {p : Program} {l : Launch} {e : Env} {s : State} {m : MethodId} {args : Array Value} {below : List Frame} {meth : Method} {c : Code} {D : va_G} {cI cZ cJ : ClassId} {ad : Nat → Nat} {rest w0 : va_W} (C : XC p rm_X4_childWithLabelLike s m args meth c cX4_childWithLabelLike 5 (some .int) RX4 wsX4_childWithLabelLike D (t3 cI cZ cJ)) {S : St} {x4 : Int32} {r : Int32} (h : X4_childWithLabelLike_b41 S x4 = some r) : XW p l e rm_X4_childWithLabelLike s m args below meth c D w0 5 (MQ below (QI D (t3 cI cZ cJ) w0 (wE cI cZ ad S rest) s.heap.size r) args s 0 0 (va_A w0 s.heap.size)) (wE cI cZ ad S rest) 0 0 41 [(4, .int x4)] [] := by
  unfold X4_childWithLabelLike_b41 at h
  refine x_iload C 0 dX4_childWithLabelLike_41 rfl ?_
  obtain rfl := Option.some.inj h
  exact x_iret C dX4_childWithLabelLike_43
def X4_childWithLabelLike_H3 (S : St) (x1 x2 x3 x4 : Int32) : Option ((Int32 × Int32 × Int32 × Int32) ⊕ (Int32)) :=
  if 42 ≤ x4 then (exI (X4_childWithLabelLike_b50 S)) else (if inB x4 42 then (if (S 3 x4.toNatClampNeg) = x1 then (if x4 = x3 then (X4_childWithLabelLike_b44 S x1 x2 x3 x4) else (if inB x4 42 then ((X4_areLike (S 4 x4.toNatClampNeg) x2).bind fun v35 => if v35 = 0 then (X4_childWithLabelLike_b44 S x1 x2 x3 x4) else (exI (X4_childWithLabelLike_b41 S x4))) else none)) else (X4_childWithLabelLike_b44 S x1 x2 x3 x4)) else none)
set_option maxHeartbeats 4000000 in
set_option maxRecDepth 100000 in
theorem X_X4_childWithLabelLike_H3 {p : Program} {l : Launch} {e : Env} {s : State} {m : MethodId} {args : Array Value} {below : List Frame} {meth : Method} {c : Code} {D : va_G} {cI cZ cJ : ClassId} {ad : Nat → Nat} {rest w0 : va_W} (C : XC p rm_X4_childWithLabelLike s m args meth c cX4_childWithLabelLike 5 (some .int) RX4 wsX4_childWithLabelLike D (t3 cI cZ cJ)) {S : St} {x1 x2 x3 x4 : Int32} {z : (Int32 × Int32 × Int32 × Int32) ⊕ (Int32)} {r : Int32} (h : X4_childWithLabelLike_H3 S x1 x2 x3 x4 = some z) (hk : ∀ a' : (Int32 × Int32 × Int32 × Int32), z = .inl a' → XW p l e rm_X4_childWithLabelLike s m args below meth c D w0 5 (MQ below (QI D (t3 cI cZ cJ) w0 (wE cI cZ ad S rest) s.heap.size r) args s 0 0 (va_A w0 s.heap.size)) (wE cI cZ ad S rest) 0 0 3 [(0, .ref (ad 0)), (1, .int a'.1), (2, .int a'.2.1), (3, .int a'.2.2.1), (4, .int a'.2.2.2)] []) (hr : ∀ r', z = .inr r' → r' = r) : XW p l e rm_X4_childWithLabelLike s m args below meth c D w0 5 (MQ below (QI D (t3 cI cZ cJ) w0 (wE cI cZ ad S rest) s.heap.size r) args s 0 0 (va_A w0 s.heap.size)) (wE cI cZ ad S rest) 0 0 3 [(0, .ref (ad 0)), (1, .int x1), (2, .int x2), (3, .int x3), (4, .int x4)] [] := by
  unfold X4_childWithLabelLike_H3 at h
  refine x_iload C 4 dX4_childWithLabelLike_3 rfl ?_
  refine x_bipush C (v := 42) dX4_childWithLabelLike_5 (by decide) ?_
  refine x_icmp_ge C (t := 50) dX4_childWithLabelLike_7 (by decide) (fun c7 => ?_) (fun c7 => ?_)
  · replace h := (if_pos c7).symm.trans h
    refine x_locals (lv' := []) [] rfl ?_
    obtain ⟨r1, h1, h2⟩ := exI_some h
    obtain rfl := hr r1 h2
    exact X_X4_childWithLabelLike_b50 C h1
  · replace h := (if_neg c7).symm.trans h
    refine x_aload_n C 0 dX4_childWithLabelLike_10 rfl ?_
    refine x_get C (R' := RX4) (T := TX4) (N := 11) (ci := 4) 0 6 rfl rfl (by decide) rfl rfl hi_X4_childWithLabelLike_4 lk_X4_childWithLabelLike_19 dX4_childWithLabelLike_11 ?_
    refine x_iload C 4 dX4_childWithLabelLike_14 rfl ?_
    obtain ⟨g16, h⟩ := gdB h
    refine x_iald C 3 rfl g16 dX4_childWithLabelLike_16 ?_
    refine x_iload_n C 1 dX4_childWithLabelLike_17 rfl ?_
    refine x_icmp_ne C (t := 44) dX4_childWithLabelLike_18 (by decide) (fun c18 => ?_) (fun c18 => ?_)
    · replace h := (if_neg c18).symm.trans h
      exact X_X4_childWithLabelLike_b44 C h hk hr
    · replace h := (if_pos c18).symm.trans h
      refine x_iload C 4 dX4_childWithLabelLike_21 rfl ?_
      refine x_iload_n C 3 dX4_childWithLabelLike_23 rfl ?_
      refine x_icmp_eq C (t := 44) dX4_childWithLabelLike_24 (by decide) (fun c24 => ?_) (fun c24 => ?_)
      · replace h := (if_pos c24).symm.trans h
        exact X_X4_childWithLabelLike_b44 C h hk hr
      · replace h := (if_neg c24).symm.trans h
        refine x_aload_n C 0 dX4_childWithLabelLike_27 rfl ?_
        refine x_get C (R' := RX4) (T := TX4) (N := 11) (ci := 4) 0 7 rfl rfl (by decide) rfl rfl hi_X4_childWithLabelLike_4 lk_X4_childWithLabelLike_22 dX4_childWithLabelLike_28 ?_
        refine x_iload C 4 dX4_childWithLabelLike_31 rfl ?_
        obtain ⟨g33, h⟩ := gdB h
        refine x_iald C 4 rfl g33 dX4_childWithLabelLike_33 ?_
        refine x_iload_n C 2 dX4_childWithLabelLike_34 rfl ?_
        obtain ⟨v35, hg35, h⟩ := ob h
        refine x_ci0 (x_runS C (As := [.int (S 4 x4.toNatClampNeg), .int x2]) (rest := []) (c_X4_areLike hg35) (cw_X4_childWithLabelLike_X4_areLike_148 C) rfl (Nat.le_of_ble_eq_true rfl) dX4_childWithLabelLike_35 ⟨Nat.zero_le _, Nat.zero_le _⟩) ?_
        refine x_if_eq C (t := 44) dX4_childWithLabelLike_38 (by decide) (fun c38 => ?_) (fun c38 => ?_)
        · replace h := (if_pos c38).symm.trans h
          exact X_X4_childWithLabelLike_b44 C h hk hr
        · replace h := (if_neg c38).symm.trans h
          refine x_locals (lv' := [(4, .int x4)]) [4] rfl ?_
          obtain ⟨r1, h1, h2⟩ := exI_some h
          obtain rfl := hr r1 h2
          exact X_X4_childWithLabelLike_b41 C h1
def X4_childWithLabelLike_L3 (S : St) (x1 x2 x3 x4 : Int32) : Option (Int32) := wloop (fun a' : (Int32 × Int32 × Int32 × Int32) => X4_childWithLabelLike_H3 S a'.1 a'.2.1 a'.2.2.1 a'.2.2.2) 1000 (x1, x2, x3, x4)
set_option maxHeartbeats 4000000 in
set_option maxRecDepth 100000 in
theorem X_X4_childWithLabelLike_L3 {p : Program} {l : Launch} {e : Env} {s : State} {m : MethodId} {args : Array Value} {below : List Frame} {meth : Method} {c : Code} {D : va_G} {cI cZ cJ : ClassId} {ad : Nat → Nat} {rest w0 : va_W} (C : XC p rm_X4_childWithLabelLike s m args meth c cX4_childWithLabelLike 5 (some .int) RX4 wsX4_childWithLabelLike D (t3 cI cZ cJ)) {S : St} {x1 x2 x3 x4 : Int32} {r : Int32} (h : X4_childWithLabelLike_L3 S x1 x2 x3 x4 = some r) : XW p l e rm_X4_childWithLabelLike s m args below meth c D w0 5 (MQ below (QI D (t3 cI cZ cJ) w0 (wE cI cZ ad S rest) s.heap.size r) args s 0 0 (va_A w0 s.heap.size)) (wE cI cZ ad S rest) 0 0 3 [(0, .ref (ad 0)), (1, .int x1), (2, .int x2), (3, .int x3), (4, .int x4)] [] :=
  wloop_met (P := (fun a' : (Int32 × Int32 × Int32 × Int32) => XW p l e rm_X4_childWithLabelLike s m args below meth c D w0 5 (MQ below (QI D (t3 cI cZ cJ) w0 (wE cI cZ ad S rest) s.heap.size r) args s 0 0 (va_A w0 s.heap.size)) (wE cI cZ ad S rest) 0 0 3 [(0, .ref (ad 0)), (1, .int a'.1), (2, .int a'.2.1), (3, .int a'.2.2.1), (4, .int a'.2.2.2)] [])) (fun _ _ hz hk hr => X_X4_childWithLabelLike_H3 C hz hk hr) 1000 (x1, x2, x3, x4) h
def X4_childWithLabelLike (S : St) (x1 x2 x3 : Int32) : Option (Int32) :=
  X4_childWithLabelLike_L3 S x1 x2 x3 0
set_option maxHeartbeats 4000000 in
set_option maxRecDepth 100000 in
theorem X_X4_childWithLabelLike {p : Program} {l : Launch} {e : Env} {s : State} {m : MethodId} {args : Array Value} {below : List Frame} {meth : Method} {c : Code} {D : va_G} {cI cZ cJ : ClassId} {ad : Nat → Nat} {rest w0 : va_W} (C : XC p rm_X4_childWithLabelLike s m args meth c cX4_childWithLabelLike 5 (some .int) RX4 wsX4_childWithLabelLike D (t3 cI cZ cJ)) {S : St} {x1 x2 x3 : Int32} {r : Int32} (h : X4_childWithLabelLike S x1 x2 x3 = some r) : XW p l e rm_X4_childWithLabelLike s m args below meth c D w0 5 (MQ below (QI D (t3 cI cZ cJ) w0 (wE cI cZ ad S rest) s.heap.size r) args s 0 0 (va_A w0 s.heap.size)) (wE cI cZ ad S rest) 0 0 0 [(0, .ref (ad 0)), (1, .int x1), (2, .int x2), (3, .int x3)] [] := by
  unfold X4_childWithLabelLike at h
  refine x_iconst C (v := 0) dX4_childWithLabelLike_0 (by decide) ?_
  refine x_istore C (lv' := [(0, .ref (ad 0)), (1, .int x1), (2, .int x2), (3, .int x3), (4, .int 0)]) dX4_childWithLabelLike_1 (by decide) rfl ?_
  exact X_X4_childWithLabelLike_L3 C h
set_option maxRecDepth 100000 in
theorem c_X4_childWithLabelLike {l : Launch} {D : va_G} {cI cZ cJ : ClassId} {ad : Nat → Nat} {S : St} {rest : va_W} {x1 x2 x3 : Int32} {r : Int32} (h : X4_childWithLabelLike S x1 x2 x3 = some r) : ∀ sz, Met l yX4_childWithLabelLike wsX4_childWithLabelLike rm_X4_childWithLabelLike (PC D (t3 cI cZ cJ) [.ref (ad 0), .int x1, .int x2, .int x3] (wE cI cZ ad S rest) sz) (QI D (t3 cI cZ cJ) (wE cI cZ ad S rest) (wE cI cZ ad S rest) sz r) 0 0 (va_A (wE cI cZ ad S rest) sz) := by
  refine x_met (Qc := fun sz => QI D (t3 cI cZ cJ) (wE cI cZ ad S rest) (wE cI cZ ad S rest) sz r) RX4 rfl (by decide) rfl (Nat.le_of_ble_eq_true rfl) (fun p e s m args below meth c C => ?_)
  exact X_X4_childWithLabelLike C h
/-! EntryMasters$Tree.settle(II)V -/
abbrev rm_X4_settle : Room := { frames := 2, cells := 0, slots := 0, locals := 45 }
theorem hi_X4_settle_4 : ∀ z ∈ u_ws RX4 TX4 11, z ∈ wsX4_settle := by decide +kernel
theorem lk_X4_settle_19 : Cond.fieldLink RX4 19 RX4 "parents" "[I" ∈ wsX4_settle := by decide +kernel
theorem lk_X4_settle_22 : Cond.fieldLink RX4 22 RX4 "labels" "[I" ∈ wsX4_settle := by decide +kernel
theorem cw_X4_settle_X4_childWithLabelLike_130 {p : Program} {s : State} {m : MethodId} {args : Array Value} {meth : Method} {c : Code} {D : va_G} {tys : List (ClassId × FieldType)} {R : Room} (C : XC p R s m args meth c cX4_settle 4 none RX4 wsX4_settle D tys) : CallW rm_X4_settle s args RX4 RX4 130 yX4_childWithLabelLike cX4_childWithLabelLike 5 (some .int) wsX4_childWithLabelLike rm_X4_childWithLabelLike 0 0 3 := cwV 3 C.2.2.2.2.1 gX4_settle_X4_childWithLabelLike rfl rfl rfl (by decide +kernel) ⟨Nat.le_of_ble_eq_true rfl, Nat.le_of_ble_eq_true rfl⟩
theorem cw_X4_settle_X4_has_119 {p : Program} {s : State} {m : MethodId} {args : Array Value} {meth : Method} {c : Code} {D : va_G} {tys : List (ClassId × FieldType)} {R : Room} (C : XC p R s m args meth c cX4_settle 4 none RX4 wsX4_settle D tys) : CallW rm_X4_settle s args RX4 RX4 119 yX4_has cX4_has 2 (some .boolean) wsX4_has rm_X4_has 0 0 1 := cwV 1 C.2.2.2.2.1 gX4_settle_X4_has rfl rfl rfl (by decide +kernel) ⟨Nat.le_of_ble_eq_true rfl, Nat.le_of_ble_eq_true rfl⟩
def X4_settle_b53 (S : St) : Option (St) :=
  some S
set_option maxHeartbeats 4000000 in
set_option maxRecDepth 100000 in
theorem X_X4_settle_b53 {p : Program} {l : Launch} {e : Env} {s : State} {m : MethodId} {args : Array Value} {below : List Frame} {meth : Method} {c : Code} {D : va_G} {cI cZ cJ : ClassId} {ad : Nat → Nat} {rest w0 : va_W} (C : XC p rm_X4_settle s m args meth c cX4_settle 4 none RX4 wsX4_settle D (t3 cI cZ cJ)) {S : St} {r : St} (h : X4_settle_b53 S = some r) : XW p l e rm_X4_settle s m args below meth c D w0 4 (MQ below (QV D (t3 cI cZ cJ) w0 (wE cI cZ ad r rest) s.heap.size) args s 0 0 (va_A w0 s.heap.size)) (wE cI cZ ad S rest) 0 0 53 [] [] := by
  unfold X4_settle_b53 at h
  obtain rfl := Option.some.inj h
  exact x_vret C dX4_settle_53
def X4_settle_b46 (S : St) (x1 x3 : Int32) : Option (St) :=
  if inB x1 42 then (X4_settle_b53 (up S 3 (upd (S 3) x1.toNatClampNeg x3))) else none
set_option maxHeartbeats 4000000 in
set_option maxRecDepth 100000 in
theorem X_X4_settle_b46 {p : Program} {l : Launch} {e : Env} {s : State} {m : MethodId} {args : Array Value} {below : List Frame} {meth : Method} {c : Code} {D : va_G} {cI cZ cJ : ClassId} {ad : Nat → Nat} {rest w0 : va_W} (C : XC p rm_X4_settle s m args meth c cX4_settle 4 none RX4 wsX4_settle D (t3 cI cZ cJ)) {S : St} {x1 x3 : Int32} {r : St} (h : X4_settle_b46 S x1 x3 = some r) : XW p l e rm_X4_settle s m args below meth c D w0 4 (MQ below (QV D (t3 cI cZ cJ) w0 (wE cI cZ ad r rest) s.heap.size) args s 0 0 (va_A w0 s.heap.size)) (wE cI cZ ad S rest) 0 0 46 [(0, .ref (ad 0)), (1, .int x1), (3, .int x3)] [] := by
  unfold X4_settle_b46 at h
  refine x_aload_n C 0 dX4_settle_46 rfl ?_
  refine x_get C (R' := RX4) (T := TX4) (N := 11) (ci := 4) 0 6 rfl rfl (by decide) rfl rfl hi_X4_settle_4 lk_X4_settle_19 dX4_settle_47 ?_
  refine x_iload_n C 1 dX4_settle_50 rfl ?_
  refine x_iload_n C 2 dX4_settle_51 rfl ?_
  obtain ⟨g52, h⟩ := gdB h
  refine x_iast C 3 rfl g52 dX4_settle_52 (wE_s3 cI cZ ad S rest (upd (S 3) x1.toNatClampNeg x3)) ?_
  refine x_locals (lv' := []) [] rfl ?_
  exact X_X4_settle_b53 C h
def X4_settle_b22 (S : St) (x1 s0 : Int32) : Option (St) :=
  if inB x1 42 then ((X4_childWithLabelLike S s0 (S 4 x1.toNatClampNeg) x1).bind fun v32 => if v32 = (-1) then (X4_settle_b46 S x1 s0) else (if inB x1 42 then (X4_settle_b46 (up S 4 (upd (S 4) x1.toNatClampNeg (-1))) x1 s0) else none)) else none
set_option maxHeartbeats 4000000 in
set_option maxRecDepth 100000 in
theorem X_X4_settle_b22 {p : Program} {l : Launch} {e : Env} {s : State} {m : MethodId} {args : Array Value} {below : List Frame} {meth : Method} {c : Code} {D : va_G} {cI cZ cJ : ClassId} {ad : Nat → Nat} {rest w0 : va_W} (C : XC p rm_X4_settle s m args meth c cX4_settle 4 none RX4 wsX4_settle D (t3 cI cZ cJ)) {S : St} {x1 s0 : Int32} {r : St} (h : X4_settle_b22 S x1 s0 = some r) : XW p l e rm_X4_settle s m args below meth c D w0 4 (MQ below (QV D (t3 cI cZ cJ) w0 (wE cI cZ ad r rest) s.heap.size) args s 0 0 (va_A w0 s.heap.size)) (wE cI cZ ad S rest) 0 0 22 [(0, .ref (ad 0)), (1, .int x1)] [.int s0] := by
  unfold X4_settle_b22 at h
  refine x_istore_n C (lv' := [(0, .ref (ad 0)), (1, .int x1), (3, .int s0)]) dX4_settle_22 (by decide) rfl ?_
  refine x_aload_n C 0 dX4_settle_23 rfl ?_
  refine x_iload_n C 2 dX4_settle_24 rfl ?_
  refine x_aload_n C 0 dX4_settle_25 rfl ?_
  refine x_get C (R' := RX4) (T := TX4) (N := 11) (ci := 4) 0 7 rfl rfl (by decide) rfl rfl hi_X4_settle_4 lk_X4_settle_22 dX4_settle_26 ?_
  refine x_iload_n C 1 dX4_settle_29 rfl ?_
  obtain ⟨g30, h⟩ := gdB h
  refine x_iald C 4 rfl g30 dX4_settle_30 ?_
  refine x_iload_n C 1 dX4_settle_31 rfl ?_
  obtain ⟨v32, hg32, h⟩ := ob h
  refine x_ci0 (x_runV C (As := [.int s0, .int (S 4 x1.toNatClampNeg), .int x1]) (rest := []) (c_X4_childWithLabelLike hg32) (cw_X4_settle_X4_childWithLabelLike_130 C) 0 rfl rfl rfl (Nat.le_of_ble_eq_true rfl) dX4_settle_32 ⟨Nat.zero_le _, Nat.zero_le _⟩) ?_
  refine x_iconst C (v := (-1)) dX4_settle_35 (by decide) ?_
  refine x_icmp_eq C (t := 46) dX4_settle_36 (by decide) (fun c36 => ?_) (fun c36 => ?_)
  · replace h := (if_pos c36).symm.trans h
    exact X_X4_settle_b46 C h
  · replace h := (if_neg c36).symm.trans h
    refine x_aload_n C 0 dX4_settle_39 rfl ?_
    refine x_get C (R' := RX4) (T := TX4) (N := 11) (ci := 4) 0 7 rfl rfl (by decide) rfl rfl hi_X4_settle_4 lk_X4_settle_22 dX4_settle_40 ?_
    refine x_iload_n C 1 dX4_settle_43 rfl ?_
    refine x_iconst C (v := (-1)) dX4_settle_44 (by decide) ?_
    obtain ⟨g45, h⟩ := gdB h
    refine x_iast C 4 rfl g45 dX4_settle_45 (wE_s4 cI cZ ad S rest (upd (S 4) x1.toNatClampNeg (-1))) ?_
    exact X_X4_settle_b46 C h
def X4_settle (S : St) (x1 x2 : Int32) : Option (St) :=
  (X4_has S x1).bind fun v2 => if v2 = 0 then (some S) else ((X4_has S x2).bind fun v11 => if v11 = 0 then (X4_settle_b22 S x1 1) else (X4_settle_b22 S x1 x2))
set_option maxHeartbeats 4000000 in
set_option maxRecDepth 100000 in
theorem X_X4_settle {p : Program} {l : Launch} {e : Env} {s : State} {m : MethodId} {args : Array Value} {below : List Frame} {meth : Method} {c : Code} {D : va_G} {cI cZ cJ : ClassId} {ad : Nat → Nat} {rest w0 : va_W} (C : XC p rm_X4_settle s m args meth c cX4_settle 4 none RX4 wsX4_settle D (t3 cI cZ cJ)) {S : St} {x1 x2 : Int32} {r : St} (h : X4_settle S x1 x2 = some r) : XW p l e rm_X4_settle s m args below meth c D w0 4 (MQ below (QV D (t3 cI cZ cJ) w0 (wE cI cZ ad r rest) s.heap.size) args s 0 0 (va_A w0 s.heap.size)) (wE cI cZ ad S rest) 0 0 0 [(0, .ref (ad 0)), (1, .int x1), (2, .int x2)] [] := by
  unfold X4_settle at h
  refine x_aload_n C 0 dX4_settle_0 rfl ?_
  refine x_iload_n C 1 dX4_settle_1 rfl ?_
  obtain ⟨v2, hg2, h⟩ := ob h
  refine x_ci0 (x_runV C (As := [.int x1]) (rest := []) (c_X4_has hg2) (cw_X4_settle_X4_has_119 C) 0 rfl rfl rfl (Nat.le_of_ble_eq_true rfl) dX4_settle_2 ⟨Nat.zero_le _, Nat.zero_le _⟩) ?_
  refine x_if_ne C (t := 9) dX4_settle_5 (by decide) (fun c5 => ?_) (fun c5 => ?_)
  · replace h := (if_neg c5).symm.trans h
    refine x_aload_n C 0 dX4_settle_9 rfl ?_
    refine x_iload_n C 2 dX4_settle_10 rfl ?_
    obtain ⟨v11, hg11, h⟩ := ob h
    refine x_ci0 (x_runV C (As := [.int x2]) (rest := []) (c_X4_has hg11) (cw_X4_settle_X4_has_119 C) 0 rfl rfl rfl (Nat.le_of_ble_eq_true rfl) dX4_settle_11 ⟨Nat.zero_le _, Nat.zero_le _⟩) ?_
    refine x_if_eq C (t := 21) dX4_settle_14 (by decide) (fun c14 => ?_) (fun c14 => ?_)
    · replace h := (if_pos c14).symm.trans h
      refine x_iconst C (v := 1) dX4_settle_21 (by decide) ?_
      refine x_locals (lv' := [(0, .ref (ad 0)), (1, .int x1)]) [0, 1] rfl ?_
      exact X_X4_settle_b22 C h
    · replace h := (if_neg c14).symm.trans h
      refine x_iload_n C 2 dX4_settle_17 rfl ?_
      refine x_goto C (t := 22) dX4_settle_18 (by decide) ?_
      refine x_locals (lv' := [(0, .ref (ad 0)), (1, .int x1)]) [0, 1] rfl ?_
      exact X_X4_settle_b22 C h
  · replace h := (if_pos c5).symm.trans h
    obtain rfl := Option.some.inj h
    exact x_vret C dX4_settle_8
set_option maxRecDepth 100000 in
theorem c_X4_settle {l : Launch} {D : va_G} {cI cZ cJ : ClassId} {ad : Nat → Nat} {S : St} {rest : va_W} {x1 x2 : Int32} {r : St} (h : X4_settle S x1 x2 = some r) : ∀ sz, Met l yX4_settle wsX4_settle rm_X4_settle (PC D (t3 cI cZ cJ) [.ref (ad 0), .int x1, .int x2] (wE cI cZ ad S rest) sz) (QV D (t3 cI cZ cJ) (wE cI cZ ad S rest) (wE cI cZ ad r rest) sz) 0 0 (va_A (wE cI cZ ad S rest) sz) := by
  refine x_met (Qc := fun sz => QV D (t3 cI cZ cJ) (wE cI cZ ad S rest) (wE cI cZ ad r rest) sz) RX4 rfl (by decide) rfl (Nat.le_of_ble_eq_true rfl) (fun p e s m args below meth c C => ?_)
  exact X_X4_settle C h
/-! EntryMasters$Tree.parentAt(I)I -/
abbrev rm_X4_parentAt : Room := { frames := 1, cells := 0, slots := 0, locals := 21 }
theorem hi_X4_parentAt_4 : ∀ z ∈ u_ws RX4 TX4 11, z ∈ wsX4_parentAt := by decide +kernel
theorem lk_X4_parentAt_19 : Cond.fieldLink RX4 19 RX4 "parents" "[I" ∈ wsX4_parentAt := by decide +kernel
theorem cw_X4_parentAt_X5_at_58 {p : Program} {s : State} {m : MethodId} {args : Array Value} {meth : Method} {c : Code} {D : va_G} {tys : List (ClassId × FieldType)} {R : Room} (C : XC p R s m args meth c cX4_parentAt 2 (some .int) RX4 wsX4_parentAt D tys) : va_CN rm_X4_parentAt s args RX4 58 yX5_at RX5 cX5_at 2 (some .int) wsX5_at rm_X5_at 0 0 2 ∧ (Cond.static yX5_at).before args s = true ∧ True := ⟨va_cnB 2 C.2.2.2.2.1 gX4_parentAt_X5_at_n58 rfl rfl rfl (C.2.2.2.2.2.2.1.1 _ (nm_mem 9 rfl)) (C.2.2.2.2.1 (.initialized RX5) (by decide +kernel)) (by decide +kernel) ⟨Nat.le_of_ble_eq_true rfl, Nat.le_of_ble_eq_true rfl⟩, C.2.2.2.2.1 (.static yX5_at) (by decide +kernel), trivial⟩
def X4_parentAt (S : St) (x1 : Int32) : Option (Int32) :=
  (X5_at 42 (S 3) x1).bind fun v5 => some v5
set_option maxHeartbeats 4000000 in
set_option maxRecDepth 100000 in
theorem X_X4_parentAt {p : Program} {l : Launch} {e : Env} {s : State} {m : MethodId} {args : Array Value} {below : List Frame} {meth : Method} {c : Code} {D : va_G} {cI cZ cJ : ClassId} {ad : Nat → Nat} {rest w0 : va_W} (C : XC p rm_X4_parentAt s m args meth c cX4_parentAt 2 (some .int) RX4 wsX4_parentAt D (t3 cI cZ cJ)) {S : St} {x1 : Int32} {r : Int32} (h : X4_parentAt S x1 = some r) : XW p l e rm_X4_parentAt s m args below meth c D w0 2 (MQ below (QI D (t3 cI cZ cJ) w0 (wE cI cZ ad S rest) s.heap.size r) args s 0 0 (va_A w0 s.heap.size)) (wE cI cZ ad S rest) 0 0 0 [(0, .ref (ad 0)), (1, .int x1)] [] := by
  unfold X4_parentAt at h
  refine x_aload_n C 0 dX4_parentAt_0 rfl ?_
  refine x_get C (R' := RX4) (T := TX4) (N := 11) (ci := 4) 0 6 rfl rfl (by decide) rfl rfl hi_X4_parentAt_4 lk_X4_parentAt_19 dX4_parentAt_1 ?_
  refine x_iload_n C 1 dX4_parentAt_4 rfl ?_
  obtain ⟨v5, hg5, h⟩ := ob h
  refine x_ci0 (x_runSN C (As := [.ref (ad 3), .int x1]) (rest := []) (c_X5_at 3 rfl hg5) (cw_X4_parentAt_X5_at_58 C) rfl (Nat.le_of_ble_eq_true rfl) dX4_parentAt_5 ⟨Nat.zero_le _, Nat.zero_le _⟩) ?_
  obtain rfl := Option.some.inj h
  exact x_iret C dX4_parentAt_8
set_option maxRecDepth 100000 in
theorem c_X4_parentAt {l : Launch} {D : va_G} {cI cZ cJ : ClassId} {ad : Nat → Nat} {S : St} {rest : va_W} {x1 : Int32} {r : Int32} (h : X4_parentAt S x1 = some r) : ∀ sz, Met l yX4_parentAt wsX4_parentAt rm_X4_parentAt (PC D (t3 cI cZ cJ) [.ref (ad 0), .int x1] (wE cI cZ ad S rest) sz) (QI D (t3 cI cZ cJ) (wE cI cZ ad S rest) (wE cI cZ ad S rest) sz r) 0 0 (va_A (wE cI cZ ad S rest) sz) := by
  refine x_met (Qc := fun sz => QI D (t3 cI cZ cJ) (wE cI cZ ad S rest) (wE cI cZ ad S rest) sz r) RX4 rfl (by decide) rfl (Nat.le_of_ble_eq_true rfl) (fun p e s m args below meth c C => ?_)
  exact X_X4_parentAt C h
/-! EntryMasters$Tree.isAtOrBelow(II)Z -/
abbrev rm_X4_isAtOrBelow : Room := { frames := 2, cells := 0, slots := 0, locals := 42 }
theorem cw_X4_isAtOrBelow_X4_parentAt_145 {p : Program} {s : State} {m : MethodId} {args : Array Value} {meth : Method} {c : Code} {D : va_G} {tys : List (ClassId × FieldType)} {R : Room} (C : XC p R s m args meth c cX4_isAtOrBelow 5 (some .boolean) RX4 wsX4_isAtOrBelow D tys) : CallW rm_X4_isAtOrBelow s args RX4 RX4 145 yX4_parentAt cX4_parentAt 2 (some .int) wsX4_parentAt rm_X4_parentAt 0 0 1 := cwV 1 C.2.2.2.2.1 gX4_isAtOrBelow_X4_parentAt rfl rfl rfl (by decide +kernel) ⟨Nat.le_of_ble_eq_true rfl, Nat.le_of_ble_eq_true rfl⟩
def X4_isAtOrBelow_b36 (S : St) : Option (Int32) :=
  some 0
set_option maxHeartbeats 4000000 in
set_option maxRecDepth 100000 in
theorem X_X4_isAtOrBelow_b36 {p : Program} {l : Launch} {e : Env} {s : State} {m : MethodId} {args : Array Value} {below : List Frame} {meth : Method} {c : Code} {D : va_G} {cI cZ cJ : ClassId} {ad : Nat → Nat} {rest w0 : va_W} (C : XC p rm_X4_isAtOrBelow s m args meth c cX4_isAtOrBelow 5 (some .boolean) RX4 wsX4_isAtOrBelow D (t3 cI cZ cJ)) {S : St} {r : Int32} (h : X4_isAtOrBelow_b36 S = some r) : XW p l e rm_X4_isAtOrBelow s m args below meth c D w0 5 (MQ below (QI D (t3 cI cZ cJ) w0 (wE cI cZ ad S rest) s.heap.size r) args s 0 0 (va_A w0 s.heap.size)) (wE cI cZ ad S rest) 0 0 36 [] [] := by
  unfold X4_isAtOrBelow_b36 at h
  refine x_iconst C (v := 0) dX4_isAtOrBelow_36 (by decide) ?_
  obtain rfl := Option.some.inj h
  exact x_zret C rfl dX4_isAtOrBelow_37
def X4_isAtOrBelow_b22 (S : St) : Option (Int32) :=
  some 1
set_option maxHeartbeats 4000000 in
set_option maxRecDepth 100000 in
theorem X_X4_isAtOrBelow_b22 {p : Program} {l : Launch} {e : Env} {s : State} {m : MethodId} {args : Array Value} {below : List Frame} {meth : Method} {c : Code} {D : va_G} {cI cZ cJ : ClassId} {ad : Nat → Nat} {rest w0 : va_W} (C : XC p rm_X4_isAtOrBelow s m args meth c cX4_isAtOrBelow 5 (some .boolean) RX4 wsX4_isAtOrBelow D (t3 cI cZ cJ)) {S : St} {r : Int32} (h : X4_isAtOrBelow_b22 S = some r) : XW p l e rm_X4_isAtOrBelow s m args below meth c D w0 5 (MQ below (QI D (t3 cI cZ cJ) w0 (wE cI cZ ad S rest) s.heap.size r) args s 0 0 (va_A w0 s.heap.size)) (wE cI cZ ad S rest) 0 0 22 [] [] := by
  unfold X4_isAtOrBelow_b22 at h
  refine x_iconst C (v := 1) dX4_isAtOrBelow_22 (by decide) ?_
  obtain rfl := Option.some.inj h
  exact x_zret C rfl dX4_isAtOrBelow_23
def X4_isAtOrBelow_H5 (S : St) (x2 x3 x4 : Int32) : Option ((Int32 × Int32 × Int32) ⊕ (Int32)) :=
  if 42 ≤ x4 then (exI (X4_isAtOrBelow_b36 S)) else (if x3 = (-1) then (exI (X4_isAtOrBelow_b36 S)) else (if x3 = x2 then (exI (X4_isAtOrBelow_b22 S)) else ((X4_parentAt S x3).bind fun v26 => some (.inl (x2, v26, x4 + 1)))))
set_option maxHeartbeats 4000000 in
set_option maxRecDepth 100000 in
theorem X_X4_isAtOrBelow_H5 {p : Program} {l : Launch} {e : Env} {s : State} {m : MethodId} {args : Array Value} {below : List Frame} {meth : Method} {c : Code} {D : va_G} {cI cZ cJ : ClassId} {ad : Nat → Nat} {rest w0 : va_W} (C : XC p rm_X4_isAtOrBelow s m args meth c cX4_isAtOrBelow 5 (some .boolean) RX4 wsX4_isAtOrBelow D (t3 cI cZ cJ)) {S : St} {x2 x3 x4 : Int32} {z : (Int32 × Int32 × Int32) ⊕ (Int32)} {r : Int32} (h : X4_isAtOrBelow_H5 S x2 x3 x4 = some z) (hk : ∀ a' : (Int32 × Int32 × Int32), z = .inl a' → XW p l e rm_X4_isAtOrBelow s m args below meth c D w0 5 (MQ below (QI D (t3 cI cZ cJ) w0 (wE cI cZ ad S rest) s.heap.size r) args s 0 0 (va_A w0 s.heap.size)) (wE cI cZ ad S rest) 0 0 5 [(0, .ref (ad 0)), (2, .int a'.1), (3, .int a'.2.1), (4, .int a'.2.2)] []) (hr : ∀ r', z = .inr r' → r' = r) : XW p l e rm_X4_isAtOrBelow s m args below meth c D w0 5 (MQ below (QI D (t3 cI cZ cJ) w0 (wE cI cZ ad S rest) s.heap.size r) args s 0 0 (va_A w0 s.heap.size)) (wE cI cZ ad S rest) 0 0 5 [(0, .ref (ad 0)), (2, .int x2), (3, .int x3), (4, .int x4)] [] := by
  unfold X4_isAtOrBelow_H5 at h
  refine x_iload C 3 dX4_isAtOrBelow_5 rfl ?_
  refine x_bipush C (v := 42) dX4_isAtOrBelow_7 (by decide) ?_
  refine x_icmp_ge C (t := 36) dX4_isAtOrBelow_9 (by decide) (fun c9 => ?_) (fun c9 => ?_)
  · replace h := (if_pos c9).symm.trans h
    refine x_locals (lv' := []) [] rfl ?_
    obtain ⟨r1, h1, h2⟩ := exI_some h
    obtain rfl := hr r1 h2
    exact X_X4_isAtOrBelow_b36 C h1
  · replace h := (if_neg c9).symm.trans h
    refine x_iload_n C 2 dX4_isAtOrBelow_12 rfl ?_
    refine x_iconst C (v := (-1)) dX4_isAtOrBelow_13 (by decide) ?_
    refine x_icmp_eq C (t := 36) dX4_isAtOrBelow_14 (by decide) (fun c14 => ?_) (fun c14 => ?_)
    · replace h := (if_pos c14).symm.trans h
      refine x_locals (lv' := []) [] rfl ?_
      obtain ⟨r1, h1, h2⟩ := exI_some h
      obtain rfl := hr r1 h2
      exact X_X4_isAtOrBelow_b36 C h1
    · replace h := (if_neg c14).symm.trans h
      refine x_iload_n C 2 dX4_isAtOrBelow_17 rfl ?_
      refine x_iload_n C 1 dX4_isAtOrBelow_18 rfl ?_
      refine x_icmp_ne C (t := 24) dX4_isAtOrBelow_19 (by decide) (fun c19 => ?_) (fun c19 => ?_)
      · replace h := (if_neg c19).symm.trans h
        refine x_aload_n C 0 dX4_isAtOrBelow_24 rfl ?_
        refine x_iload_n C 2 dX4_isAtOrBelow_25 rfl ?_
        obtain ⟨v26, hg26, h⟩ := ob h
        refine x_ci0 (x_runV C (As := [.int x3]) (rest := []) (c_X4_parentAt hg26) (cw_X4_isAtOrBelow_X4_parentAt_145 C) 0 rfl rfl rfl (Nat.le_of_ble_eq_true rfl) dX4_isAtOrBelow_26 ⟨Nat.zero_le _, Nat.zero_le _⟩) ?_
        refine x_istore_n C (lv' := [(0, .ref (ad 0)), (2, .int x2), (3, .int v26), (4, .int x4)]) dX4_isAtOrBelow_29 (by decide) rfl ?_
        refine x_iinc C (v := x4 + 1) (lv' := [(0, .ref (ad 0)), (2, .int x2), (3, .int v26), (4, .int (x4 + 1))]) 3 dX4_isAtOrBelow_30 rfl rfl (by decide) rfl ?_
        refine x_goto C (t := 5) dX4_isAtOrBelow_33 (by decide) ?_
        exact hk _ (Option.some.inj h).symm
      · replace h := (if_pos c19).symm.trans h
        refine x_locals (lv' := []) [] rfl ?_
        obtain ⟨r1, h1, h2⟩ := exI_some h
        obtain rfl := hr r1 h2
        exact X_X4_isAtOrBelow_b22 C h1
def X4_isAtOrBelow_L5 (S : St) (x2 x3 x4 : Int32) : Option (Int32) := wloop (fun a' : (Int32 × Int32 × Int32) => X4_isAtOrBelow_H5 S a'.1 a'.2.1 a'.2.2) 1000 (x2, x3, x4)
set_option maxHeartbeats 4000000 in
set_option maxRecDepth 100000 in
theorem X_X4_isAtOrBelow_L5 {p : Program} {l : Launch} {e : Env} {s : State} {m : MethodId} {args : Array Value} {below : List Frame} {meth : Method} {c : Code} {D : va_G} {cI cZ cJ : ClassId} {ad : Nat → Nat} {rest w0 : va_W} (C : XC p rm_X4_isAtOrBelow s m args meth c cX4_isAtOrBelow 5 (some .boolean) RX4 wsX4_isAtOrBelow D (t3 cI cZ cJ)) {S : St} {x2 x3 x4 : Int32} {r : Int32} (h : X4_isAtOrBelow_L5 S x2 x3 x4 = some r) : XW p l e rm_X4_isAtOrBelow s m args below meth c D w0 5 (MQ below (QI D (t3 cI cZ cJ) w0 (wE cI cZ ad S rest) s.heap.size r) args s 0 0 (va_A w0 s.heap.size)) (wE cI cZ ad S rest) 0 0 5 [(0, .ref (ad 0)), (2, .int x2), (3, .int x3), (4, .int x4)] [] :=
  wloop_met (P := (fun a' : (Int32 × Int32 × Int32) => XW p l e rm_X4_isAtOrBelow s m args below meth c D w0 5 (MQ below (QI D (t3 cI cZ cJ) w0 (wE cI cZ ad S rest) s.heap.size r) args s 0 0 (va_A w0 s.heap.size)) (wE cI cZ ad S rest) 0 0 5 [(0, .ref (ad 0)), (2, .int a'.1), (3, .int a'.2.1), (4, .int a'.2.2)] [])) (fun _ _ hz hk hr => X_X4_isAtOrBelow_H5 C hz hk hr) 1000 (x2, x3, x4) h
def X4_isAtOrBelow (S : St) (x1 x2 : Int32) : Option (Int32) :=
  X4_isAtOrBelow_L5 S x2 x1 0
set_option maxHeartbeats 4000000 in
set_option maxRecDepth 100000 in
theorem X_X4_isAtOrBelow {p : Program} {l : Launch} {e : Env} {s : State} {m : MethodId} {args : Array Value} {below : List Frame} {meth : Method} {c : Code} {D : va_G} {cI cZ cJ : ClassId} {ad : Nat → Nat} {rest w0 : va_W} (C : XC p rm_X4_isAtOrBelow s m args meth c cX4_isAtOrBelow 5 (some .boolean) RX4 wsX4_isAtOrBelow D (t3 cI cZ cJ)) {S : St} {x1 x2 : Int32} {r : Int32} (h : X4_isAtOrBelow S x1 x2 = some r) : XW p l e rm_X4_isAtOrBelow s m args below meth c D w0 5 (MQ below (QI D (t3 cI cZ cJ) w0 (wE cI cZ ad S rest) s.heap.size r) args s 0 0 (va_A w0 s.heap.size)) (wE cI cZ ad S rest) 0 0 0 [(0, .ref (ad 0)), (1, .int x1), (2, .int x2)] [] := by
  unfold X4_isAtOrBelow at h
  refine x_iload_n C 1 dX4_isAtOrBelow_0 rfl ?_
  refine x_istore_n C (lv' := [(0, .ref (ad 0)), (1, .int x1), (2, .int x2), (3, .int x1)]) dX4_isAtOrBelow_1 (by decide) rfl ?_
  refine x_iconst C (v := 0) dX4_isAtOrBelow_2 (by decide) ?_
  refine x_istore C (lv' := [(0, .ref (ad 0)), (1, .int x1), (2, .int x2), (3, .int x1), (4, .int 0)]) dX4_isAtOrBelow_3 (by decide) rfl ?_
  refine x_locals (lv' := [(0, .ref (ad 0)), (2, .int x2), (3, .int x1), (4, .int 0)]) [0, 2, 3, 4] rfl ?_
  exact X_X4_isAtOrBelow_L5 C h
set_option maxRecDepth 100000 in
theorem c_X4_isAtOrBelow {l : Launch} {D : va_G} {cI cZ cJ : ClassId} {ad : Nat → Nat} {S : St} {rest : va_W} {x1 x2 : Int32} {r : Int32} (h : X4_isAtOrBelow S x1 x2 = some r) : ∀ sz, Met l yX4_isAtOrBelow wsX4_isAtOrBelow rm_X4_isAtOrBelow (PC D (t3 cI cZ cJ) [.ref (ad 0), .int x1, .int x2] (wE cI cZ ad S rest) sz) (QI D (t3 cI cZ cJ) (wE cI cZ ad S rest) (wE cI cZ ad S rest) sz r) 0 0 (va_A (wE cI cZ ad S rest) sz) := by
  refine x_met (Qc := fun sz => QI D (t3 cI cZ cJ) (wE cI cZ ad S rest) (wE cI cZ ad S rest) sz r) RX4 rfl (by decide) rfl (Nat.le_of_ble_eq_true rfl) (fun p e s m args below meth c C => ?_)
  exact X_X4_isAtOrBelow C h
end
