set_option maxRecDepth 20000 in
theorem lj_wsL_law0_r1_0 : (Cond.classLink RL 8 RX5) ∈ lw_tbl := by decide +kernel
set_option maxRecDepth 20000 in
theorem lj_wsL_law0_r1_1 : (Cond.instantiable RX5 6) ∈ lw_tbl := by decide +kernel
set_option maxRecDepth 20000 in
theorem lj_wsL_law0_r1_2 : (Cond.initialized RX5) ∈ lw_tbl := by decide +kernel
set_option maxRecDepth 20000 in
theorem lj_wsL_law0_r1_3 : (Cond.methodLink RL 124 yL_masters) ∈ lw_tbl := by decide +kernel
set_option maxRecDepth 20000 in
theorem lj_wsL_law0_r1_4 : (Cond.static yL_masters) ∈ lw_tbl := by decide +kernel
set_option maxRecDepth 20000 in
theorem lj_wsL_law0_r1_5 : (Cond.initialized RL) ∈ lw_tbl := by decide +kernel
set_option maxRecDepth 20000 in
theorem lj_wsL_law0_r1_7 : (Cond.methodLink RL 111 yX5_init) ∈ lw_tbl := by decide +kernel
set_option maxRecDepth 20000 in
theorem lj_wsL_law0_r1_8 : (Cond.instanceMethod yX5_init) ∈ lw_tbl := by decide +kernel
set_option maxRecDepth 20000 in
theorem lj_wsL_law0_r1_10 : (Cond.methodLink RX5 3 objectInit) ∈ lw_tbl := by decide +kernel
set_option maxRecDepth 20000 in
theorem lj_wsL_law0_r1_11 : (Cond.instanceMethod objectInit) ∈ lw_tbl := by decide +kernel
set_option maxRecDepth 20000 in
theorem lj_wsL_law0_r1_13 : (Cond.classLink RX5 9 RX0) ∈ lw_tbl := by decide +kernel
set_option maxRecDepth 20000 in
theorem lj_wsL_law0_r1_14 : (Cond.instantiable RX0 2) ∈ lw_tbl := by decide +kernel
set_option maxRecDepth 20000 in
theorem lj_wsL_law0_r1_15 : (Cond.initialized RX0) ∈ lw_tbl := by decide +kernel
set_option maxRecDepth 20000 in
theorem lj_wsL_law0_r1_16 : (Cond.fieldLink RX5 12 "EntryMasters" "classes" "LEntryMasters$Classes;") ∈ lw_tbl := by decide +kernel
set_option maxRecDepth 20000 in
theorem lj_wsL_law0_r1_17 : (Cond.classLink RX5 16 RX2) ∈ lw_tbl := by decide +kernel
set_option maxRecDepth 20000 in
theorem lj_wsL_law0_r1_18 : (Cond.instantiable RX2 7) ∈ lw_tbl := by decide +kernel
set_option maxRecDepth 20000 in
theorem lj_wsL_law0_r1_19 : (Cond.initialized RX2) ∈ lw_tbl := by decide +kernel
set_option maxRecDepth 20000 in
theorem lj_wsL_law0_r1_20 : (Cond.fieldLink RX5 19 "EntryMasters" "log" "LEntryMasters$Log;") ∈ lw_tbl := by decide +kernel
set_option maxRecDepth 20000 in
theorem lj_wsL_law0_r1_21 : (Cond.classLink RX5 23 RX4) ∈ lw_tbl := by decide +kernel
set_option maxRecDepth 20000 in
theorem lj_wsL_law0_r1_22 : (Cond.instantiable RX4 11) ∈ lw_tbl := by decide +kernel
set_option maxRecDepth 20000 in
theorem lj_wsL_law0_r1_23 : (Cond.initialized RX4) ∈ lw_tbl := by decide +kernel
set_option maxRecDepth 20000 in
theorem li_wsL_law0_r1 : ∀ w ∈ wsL_law0_r1, w ∈ lw_tbl := (List.forall_mem_cons.mpr ⟨lj_wsL_law0_r1_0, (List.forall_mem_cons.mpr ⟨lj_wsL_law0_r1_1, (List.forall_mem_cons.mpr ⟨lj_wsL_law0_r1_2, (List.forall_mem_cons.mpr ⟨lj_wsL_law0_r1_3, (List.forall_mem_cons.mpr ⟨lj_wsL_law0_r1_4, (List.forall_mem_cons.mpr ⟨lj_wsL_law0_r1_5, (List.forall_mem_cons.mpr ⟨(List.mem_of_getElem? (i := 638) rfl), (List.forall_mem_cons.mpr ⟨lj_wsL_law0_r1_7, (List.forall_mem_cons.mpr ⟨lj_wsL_law0_r1_8, (List.forall_mem_cons.mpr ⟨(List.mem_of_getElem? (i := 33) rfl), (List.forall_mem_cons.mpr ⟨lj_wsL_law0_r1_10, (List.forall_mem_cons.mpr ⟨lj_wsL_law0_r1_11, (List.forall_mem_cons.mpr ⟨(List.mem_of_getElem? (i := 36) rfl), (List.forall_mem_cons.mpr ⟨lj_wsL_law0_r1_13, (List.forall_mem_cons.mpr ⟨lj_wsL_law0_r1_14, (List.forall_mem_cons.mpr ⟨lj_wsL_law0_r1_15, (List.forall_mem_cons.mpr ⟨lj_wsL_law0_r1_16, (List.forall_mem_cons.mpr ⟨lj_wsL_law0_r1_17, (List.forall_mem_cons.mpr ⟨lj_wsL_law0_r1_18, (List.forall_mem_cons.mpr ⟨lj_wsL_law0_r1_19, (List.forall_mem_cons.mpr ⟨lj_wsL_law0_r1_20, (List.forall_mem_cons.mpr ⟨lj_wsL_law0_r1_21, (List.forall_mem_cons.mpr ⟨lj_wsL_law0_r1_22, (List.forall_mem_cons.mpr ⟨lj_wsL_law0_r1_23, (fun _ h => absurd h List.not_mem_nil)⟩)⟩)⟩)⟩)⟩)⟩)⟩)⟩)⟩)⟩)⟩)⟩)⟩)⟩)⟩)⟩)⟩)⟩)⟩)⟩)⟩)⟩)⟩)⟩)
set_option maxRecDepth 20000 in
theorem li_wsL_law0_r2 : ∀ w ∈ wsL_law0_r2, w ∈ lw_tbl := fun w h => (goodIn_p wsL_law0_r2 [41, 45, 58] (by decide +kernel) (by decide +kernel) w h).1
set_option maxRecDepth 20000 in
theorem li_wsL_law0_r3 : ∀ w ∈ wsL_law0_r3, w ∈ lw_tbl := fun w h => (goodIn_p wsL_law0_r3 [92, 97] (by decide +kernel) (by decide +kernel) w h).1
set_option maxRecDepth 20000 in
theorem li_wsL_law0_r4 : ∀ w ∈ wsL_law0_r4, w ∈ lw_tbl := fun w h => (goodIn_p wsL_law0_r4 [139, 153, 429, 468] (by decide +kernel) (by decide +kernel) w h).1
set_option maxRecDepth 20000 in
theorem li_wsL_law0_r5 : ∀ w ∈ wsL_law0_r5, w ∈ lw_tbl := fun w h => (goodIn_p wsL_law0_r5 [198, 201, 587, 591, 595] (by decide +kernel) (by decide +kernel) w h).1
set_option maxRecDepth 20000 in
theorem li_wsL_law0_r6 : ∀ w ∈ wsL_law0_r6, w ∈ lw_tbl := fun w h => (goodIn_p wsL_law0_r6 [417, 334, 403, 484, 641, 472, 276] (by decide +kernel) (by decide +kernel) w h).1
set_option maxRecDepth 20000 in
theorem li_wsL_law0_r7 : ∀ w ∈ wsL_law0_r7, w ∈ lw_tbl := fun w h => (goodIn_p wsL_law0_r7 [476, 272, 480, 438, 280, 323] (by decide +kernel) (by decide +kernel) w h).1
set_option maxRecDepth 20000 in
theorem lj_wsL_law0_r8_0 : (Cond.methodLink RX4 148 yX4_areLike) ∈ lw_tbl := by decide +kernel
set_option maxRecDepth 20000 in
theorem lj_wsL_law0_r8_1 : (Cond.static yX4_areLike) ∈ lw_tbl := by decide +kernel
set_option maxRecDepth 20000 in
theorem lj_wsL_law0_r8_3 : (Cond.methodLink RL 116 yL_refuses) ∈ lw_tbl := by decide +kernel
set_option maxRecDepth 20000 in
theorem lj_wsL_law0_r8_4 : (Cond.static yL_refuses) ∈ lw_tbl := by decide +kernel
set_option maxRecDepth 20000 in
theorem lj_wsL_law0_r8_6 : (Cond.constant RL 91 (2147483647)) ∈ lw_tbl := by decide +kernel
set_option maxRecDepth 20000 in
theorem lj_wsL_law0_r8_7 : (Cond.methodLink RL 92 yL_kind) ∈ lw_tbl := by decide +kernel
set_option maxRecDepth 20000 in
theorem lj_wsL_law0_r8_8 : (Cond.static yL_kind) ∈ lw_tbl := by decide +kernel
set_option maxRecDepth 20000 in
theorem lj_wsL_law0_r8_9 : (Cond.codeWith yL_kind cL_kind 5 (some .int) [(0, 8, 9, 13), (0, 8, 14, 15), (0, 8, 19, 17)]) ∈ lw_tbl := by decide +kernel
set_option maxRecDepth 20000 in
theorem lj_wsL_law0_r8_10 : (Cond.classLink RL 13 "java/lang/IndexOutOfBoundsException") ∈ lw_tbl := by decide +kernel
set_option maxRecDepth 20000 in
theorem lj_wsL_law0_r8_11 : (Cond.classLink RL 15 "java/lang/IllegalArgumentException") ∈ lw_tbl := by decide +kernel
set_option maxRecDepth 20000 in
theorem lj_wsL_law0_r8_12 : (Cond.classLink RL 17 "java/lang/IllegalStateException") ∈ lw_tbl := by decide +kernel
set_option maxRecDepth 20000 in
theorem lj_wsL_law0_r8_13 : (Cond.methodLink RL 7 yX5_setClass) ∈ lw_tbl := by decide +kernel
set_option maxRecDepth 20000 in
theorem lj_wsL_law0_r8_14 : (Cond.instanceMethod yX5_setClass) ∈ lw_tbl := by decide +kernel
set_option maxRecDepth 20000 in
theorem lj_wsL_law0_r8_15 : (Cond.selects RX5 yX5_setClass yX5_setClass) ∈ lw_tbl := by decide +kernel
set_option maxRecDepth 20000 in
theorem lj_wsL_law0_r8_17 : (Cond.classLink RX5 61 "java/lang/IllegalStateException") ∈ lw_tbl := by decide +kernel
set_option maxRecDepth 20000 in
theorem lj_wsL_law0_r8_18 : (Cond.initialized "java/lang/IllegalStateException") ∈ lw_tbl := by decide +kernel
set_option maxRecDepth 20000 in
theorem lj_wsL_law0_r8_19 : (Cond.methodLink RX5 68 yX0_define) ∈ lw_tbl := by decide +kernel
set_option maxRecDepth 20000 in
theorem lj_wsL_law0_r8_20 : (Cond.instanceMethod yX0_define) ∈ lw_tbl := by decide +kernel
set_option maxRecDepth 20000 in
theorem lj_wsL_law0_r8_21 : (Cond.selects RX0 yX0_define yX0_define) ∈ lw_tbl := by decide +kernel
set_option maxRecDepth 20000 in
theorem lj_wsL_law0_r8_23 : (Cond.static yX5_put) ∈ lw_tbl := by decide +kernel
set_option maxRecDepth 20000 in
theorem li_wsL_law0_r8 : ∀ w ∈ wsL_law0_r8, w ∈ lw_tbl := (List.forall_mem_cons.mpr ⟨lj_wsL_law0_r8_0, (List.forall_mem_cons.mpr ⟨lj_wsL_law0_r8_1, (List.forall_mem_cons.mpr ⟨(List.mem_of_getElem? (i := 326) rfl), (List.forall_mem_cons.mpr ⟨lj_wsL_law0_r8_3, (List.forall_mem_cons.mpr ⟨lj_wsL_law0_r8_4, (List.forall_mem_cons.mpr ⟨(List.mem_of_getElem? (i := 583) rfl), (List.forall_mem_cons.mpr ⟨lj_wsL_law0_r8_6, (List.forall_mem_cons.mpr ⟨lj_wsL_law0_r8_7, (List.forall_mem_cons.mpr ⟨lj_wsL_law0_r8_8, (List.forall_mem_cons.mpr ⟨lj_wsL_law0_r8_9, (List.forall_mem_cons.mpr ⟨lj_wsL_law0_r8_10, (List.forall_mem_cons.mpr ⟨lj_wsL_law0_r8_11, (List.forall_mem_cons.mpr ⟨lj_wsL_law0_r8_12, (List.forall_mem_cons.mpr ⟨lj_wsL_law0_r8_13, (List.forall_mem_cons.mpr ⟨lj_wsL_law0_r8_14, (List.forall_mem_cons.mpr ⟨lj_wsL_law0_r8_15, (List.forall_mem_cons.mpr ⟨(List.mem_of_getElem? (i := 603) rfl), (List.forall_mem_cons.mpr ⟨lj_wsL_law0_r8_17, (List.forall_mem_cons.mpr ⟨lj_wsL_law0_r8_18, (List.forall_mem_cons.mpr ⟨lj_wsL_law0_r8_19, (List.forall_mem_cons.mpr ⟨lj_wsL_law0_r8_20, (List.forall_mem_cons.mpr ⟨lj_wsL_law0_r8_21, (List.forall_mem_cons.mpr ⟨(List.mem_of_getElem? (i := 608) rfl), (List.forall_mem_cons.mpr ⟨lj_wsL_law0_r8_23, (fun _ h => absurd h List.not_mem_nil)⟩)⟩)⟩)⟩)⟩)⟩)⟩)⟩)⟩)⟩)⟩)⟩)⟩)⟩)⟩)⟩)⟩)⟩)⟩)⟩)⟩)⟩)⟩)⟩)
set_option maxRecDepth 20000 in
theorem li_wsL_law0_r9 : ∀ w ∈ wsL_law0_r9, w ∈ lw_tbl := fun w h => (goodIn_p wsL_law0_r9 [349, 194, 300, 319, 331, 338] (by decide +kernel) (by decide +kernel) w h).1
set_option maxRecDepth 20000 in
theorem li_wsL_law0_r10 : ∀ w ∈ wsL_law0_r10, w ∈ lw_tbl := fun w h => (goodIn_p wsL_law0_r10 [342, 346, 353, 357, 361, 366] (by decide +kernel) (by decide +kernel) w h).1
set_option maxRecDepth 20000 in
theorem li_wsL_law0_r11 : ∀ w ∈ wsL_law0_r11, w ∈ lw_tbl := fun w h => (goodIn_p wsL_law0_r11 [370, 374, 380, 384, 388] (by decide +kernel) (by decide +kernel) w h).1
set_option maxRecDepth 20000 in
theorem li_wsL_law0_r12 : ∀ w ∈ wsL_law0_r12, w ∈ lw_tbl := fun w h => (goodIn_p wsL_law0_r12 [391, 395, 399, 407, 411, 448] (by decide +kernel) (by decide +kernel) w h).1
set_option maxRecDepth 20000 in
theorem li_wsL_law0_r13 : ∀ w ∈ wsL_law0_r13, w ∈ lw_tbl := fun w h => (goodIn_p wsL_law0_r13 [451, 459, 463, 421, 425, 433] (by decide +kernel) (by decide +kernel) w h).1
set_option maxRecDepth 20000 in
theorem li_wsL_law0_r14 : ∀ w ∈ wsL_law0_r14, w ∈ lw_tbl := fun w h => (goodIn_p wsL_law0_r14 [488, 492, 496, 500, 505, 509] (by decide +kernel) (by decide +kernel) w h).1
set_option maxRecDepth 20000 in
theorem li_wsL_law0_r15 : ∀ w ∈ wsL_law0_r15, w ∈ lw_tbl := fun w h => (goodIn_p wsL_law0_r15 [514, 519, 523, 527, 530] (by decide +kernel) (by decide +kernel) w h).1
set_option maxRecDepth 20000 in
theorem li_wsL_law0_r16 : ∀ w ∈ wsL_law0_r16, w ∈ lw_tbl := fun w h => (goodIn_p wsL_law0_r16 [536, 539, 542, 546, 551, 555, 559] (by decide +kernel) (by decide +kernel) w h).1
set_option maxRecDepth 20000 in
theorem li_wsL_law0_r17 : ∀ w ∈ wsL_law0_r17, w ∈ lw_tbl := fun w h => (goodIn_p wsL_law0_r17 [564, 568, 574, 579] (by decide +kernel) (by decide +kernel) w h).1
set_option maxRecDepth 20000 in
theorem lj_wsL_law0_r18_1 : (Cond.methodLink RX5 152 yX3_putRight) ∈ lw_tbl := by decide +kernel
set_option maxRecDepth 20000 in
theorem lj_wsL_law0_r18_2 : (Cond.instanceMethod yX3_putRight) ∈ lw_tbl := by decide +kernel
set_option maxRecDepth 20000 in
theorem lj_wsL_law0_r18_3 : (Cond.selects RX3 yX3_putRight yX3_putRight) ∈ lw_tbl := by decide +kernel
set_option maxRecDepth 20000 in
theorem lj_wsL_law0_r18_5 : (Cond.methodLink RL 105 yL_refer) ∈ lw_tbl := by decide +kernel
set_option maxRecDepth 20000 in
theorem lj_wsL_law0_r18_6 : (Cond.static yL_refer) ∈ lw_tbl := by decide +kernel
set_option maxRecDepth 20000 in
theorem lj_wsL_law0_r18_7 : (Cond.codeWith yL_refer cL_refer 4 (some .int) [(0, 7, 8, 13)]) ∈ lw_tbl := by decide +kernel
set_option maxRecDepth 20000 in
theorem lj_wsL_law0_r18_8 : (Cond.methodLink RL 22 yX5_refer) ∈ lw_tbl := by decide +kernel
set_option maxRecDepth 20000 in
theorem lj_wsL_law0_r18_9 : (Cond.instanceMethod yX5_refer) ∈ lw_tbl := by decide +kernel
set_option maxRecDepth 20000 in
theorem lj_wsL_law0_r18_10 : (Cond.selects RX5 yX5_refer yX5_refer) ∈ lw_tbl := by decide +kernel
set_option maxRecDepth 20000 in
theorem lj_wsL_law0_r18_12 : (Cond.methodLink RX5 155 yX3_putReferral) ∈ lw_tbl := by decide +kernel
set_option maxRecDepth 20000 in
theorem lj_wsL_law0_r18_13 : (Cond.instanceMethod yX3_putReferral) ∈ lw_tbl := by decide +kernel
set_option maxRecDepth 20000 in
theorem lj_wsL_law0_r18_14 : (Cond.selects RX3 yX3_putReferral yX3_putReferral) ∈ lw_tbl := by decide +kernel
set_option maxRecDepth 20000 in
theorem lj_wsL_law0_r18_16 : (Cond.methodLink RL 108 yL_search) ∈ lw_tbl := by decide +kernel
set_option maxRecDepth 20000 in
theorem lj_wsL_law0_r18_17 : (Cond.static yL_search) ∈ lw_tbl := by decide +kernel
set_option maxRecDepth 20000 in
theorem lj_wsL_law0_r18_18 : (Cond.codeWith yL_search cL_search 8 (some .int) [(0, 13, 14, 13), (0, 13, 19, 15)]) ∈ lw_tbl := by decide +kernel
set_option maxRecDepth 20000 in
theorem lj_wsL_law0_r18_19 : (Cond.methodLink RL 127 yL_searches) ∈ lw_tbl := by decide +kernel
set_option maxRecDepth 20000 in
theorem lj_wsL_law0_r18_20 : (Cond.static yL_searches) ∈ lw_tbl := by decide +kernel
set_option maxRecDepth 20000 in
theorem lj_wsL_law0_r18_22 : (Cond.methodLink RL 120 yL_finds) ∈ lw_tbl := by decide +kernel
set_option maxRecDepth 20000 in
theorem lj_wsL_law0_r18_23 : (Cond.static yL_finds) ∈ lw_tbl := by decide +kernel
set_option maxRecDepth 20000 in
theorem li_wsL_law0_r18 : ∀ w ∈ wsL_law0_r18, w ∈ lw_tbl := (List.forall_mem_cons.mpr ⟨(List.mem_of_getElem? (i := 616) rfl), (List.forall_mem_cons.mpr ⟨lj_wsL_law0_r18_1, (List.forall_mem_cons.mpr ⟨lj_wsL_law0_r18_2, (List.forall_mem_cons.mpr ⟨lj_wsL_law0_r18_3, (List.forall_mem_cons.mpr ⟨(List.mem_of_getElem? (i := 620) rfl), (List.forall_mem_cons.mpr ⟨lj_wsL_law0_r18_5, (List.forall_mem_cons.mpr ⟨lj_wsL_law0_r18_6, (List.forall_mem_cons.mpr ⟨lj_wsL_law0_r18_7, (List.forall_mem_cons.mpr ⟨lj_wsL_law0_r18_8, (List.forall_mem_cons.mpr ⟨lj_wsL_law0_r18_9, (List.forall_mem_cons.mpr ⟨lj_wsL_law0_r18_10, (List.forall_mem_cons.mpr ⟨(List.mem_of_getElem? (i := 628) rfl), (List.forall_mem_cons.mpr ⟨lj_wsL_law0_r18_12, (List.forall_mem_cons.mpr ⟨lj_wsL_law0_r18_13, (List.forall_mem_cons.mpr ⟨lj_wsL_law0_r18_14, (List.forall_mem_cons.mpr ⟨(List.mem_of_getElem? (i := 632) rfl), (List.forall_mem_cons.mpr ⟨lj_wsL_law0_r18_16, (List.forall_mem_cons.mpr ⟨lj_wsL_law0_r18_17, (List.forall_mem_cons.mpr ⟨lj_wsL_law0_r18_18, (List.forall_mem_cons.mpr ⟨lj_wsL_law0_r18_19, (List.forall_mem_cons.mpr ⟨lj_wsL_law0_r18_20, (List.forall_mem_cons.mpr ⟨(List.mem_of_getElem? (i := 644) rfl), (List.forall_mem_cons.mpr ⟨lj_wsL_law0_r18_22, (List.forall_mem_cons.mpr ⟨lj_wsL_law0_r18_23, (fun _ h => absurd h List.not_mem_nil)⟩)⟩)⟩)⟩)⟩)⟩)⟩)⟩)⟩)⟩)⟩)⟩)⟩)⟩)⟩)⟩)⟩)⟩)⟩)⟩)⟩)⟩)⟩)⟩)
set_option maxRecDepth 20000 in
theorem li_wsL_law0_r19 : ∀ w ∈ wsL_law0_r19, w ∈ lw_tbl := fun w h => (goodIn_p wsL_law0_r19 [647] (by decide +kernel) (by decide +kernel) w h).1
set_option maxRecDepth 20000 in
theorem li_wsX50 : ∀ w ∈ wsX50, w ∈ lw_tbl := fun w h => (goodIn_p wsX50 [] (by decide +kernel) (by decide +kernel) w h).1
set_option maxRecDepth 20000 in
theorem li_wsX00 : ∀ w ∈ wsX00, w ∈ lw_tbl := fun w h => (goodIn_p wsX00 [] (by decide +kernel) (by decide +kernel) w h).1
set_option maxRecDepth 20000 in
theorem li_wsX20 : ∀ w ∈ wsX20, w ∈ lw_tbl := fun w h => (goodIn_p wsX20 [] (by decide +kernel) (by decide +kernel) w h).1
set_option maxRecDepth 20000 in
theorem li_wsX40 : ∀ w ∈ wsX40, w ∈ lw_tbl := fun w h => (goodIn_p wsX40 [] (by decide +kernel) (by decide +kernel) w h).1
set_option maxRecDepth 20000 in
theorem li_wsX30 : ∀ w ∈ wsX30, w ∈ lw_tbl := fun w h => (goodIn_p wsX30 [] (by decide +kernel) (by decide +kernel) w h).1
set_option maxRecDepth 20000 in
theorem li_wsX10 : ∀ w ∈ wsX10, w ∈ lw_tbl := fun w h => (goodIn_p wsX10 [] (by decide +kernel) (by decide +kernel) w h).1
theorem wsL_law_in0 : ∀ w ∈ wsL_law0, w ∈ lw_tbl := List.forall_mem_append.mpr ⟨List.forall_mem_append.mpr ⟨List.forall_mem_append.mpr ⟨List.forall_mem_append.mpr ⟨List.forall_mem_append.mpr ⟨List.forall_mem_append.mpr ⟨List.forall_mem_append.mpr ⟨List.forall_mem_append.mpr ⟨li_wsL_law0_r1, List.forall_mem_append.mpr ⟨li_wsL_law0_r2, List.forall_mem_append.mpr ⟨li_wsL_law0_r3, List.forall_mem_append.mpr ⟨li_wsL_law0_r4, List.forall_mem_append.mpr ⟨li_wsL_law0_r5, List.forall_mem_append.mpr ⟨li_wsL_law0_r6, List.forall_mem_append.mpr ⟨li_wsL_law0_r7, List.forall_mem_append.mpr ⟨li_wsL_law0_r8, List.forall_mem_append.mpr ⟨li_wsL_law0_r9, List.forall_mem_append.mpr ⟨li_wsL_law0_r10, List.forall_mem_append.mpr ⟨li_wsL_law0_r11, List.forall_mem_append.mpr ⟨li_wsL_law0_r12, List.forall_mem_append.mpr ⟨li_wsL_law0_r13, List.forall_mem_append.mpr ⟨li_wsL_law0_r14, List.forall_mem_append.mpr ⟨li_wsL_law0_r15, List.forall_mem_append.mpr ⟨li_wsL_law0_r16, List.forall_mem_append.mpr ⟨li_wsL_law0_r17, List.forall_mem_append.mpr ⟨li_wsL_law0_r18, li_wsL_law0_r19⟩⟩⟩⟩⟩⟩⟩⟩⟩⟩⟩⟩⟩⟩⟩⟩⟩⟩, li_wsX50⟩, li_wsX00⟩, li_wsX20⟩, li_wsX40⟩, li_wsX30⟩, li_wsX10⟩, fun _ h => absurd h List.not_mem_nil⟩
