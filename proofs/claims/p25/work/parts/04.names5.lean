set_option maxRecDepth 20000 in
theorem ggX5_init_X0_init : GoodIn wsX5_init wsX0_init := goodIn_r _ [27, 28, 2, 3, 29, 30, 31, 32, 33, 34, 35, 79, 80] (by decide +kernel) (by decide +kernel)
set_option maxRecDepth 20000 in
theorem gX5_init_X0_init : GoodIn wsX5_init (wsX0_init) := ggX5_init_X0_init
set_option maxRecDepth 20000 in
theorem ggX5_init_X2_init : GoodIn wsX5_init wsX2_init := goodIn_r _ [37, 38, 2, 3, 29, 39, 40, 41, 42, 43, 44, 87, 88, 89, 90, 91, 92, 93] (by decide +kernel) (by decide +kernel)
set_option maxRecDepth 20000 in
theorem gX5_init_X2_init_n18 : GoodIn wsX5_init (wsX2_init) := ggX5_init_X2_init
set_option maxRecDepth 20000 in
theorem ggX5_init_X4_init : GoodIn wsX5_init wsX4_init := goodIn_r _ [47, 48, 2, 3, 29, 49, 50, 51, 52, 53, 54, 55, 56, 57, 58, 59, 60, 61, 14, 62, 63, 64, 33, 34, 35, 94, 95, 96, 97, 98, 99, 100, 101, 102, 103, 104] (by decide +kernel) (by decide +kernel)
set_option maxRecDepth 20000 in
theorem gX5_init_X4_init : GoodIn wsX5_init (wsX4_init) := ggX5_init_X4_init
set_option maxRecDepth 20000 in
theorem ggX5_init_X3_init : GoodIn wsX5_init wsX3_init := goodIn_r _ [67, 68, 2, 3, 29, 69, 50, 70, 71, 33, 34, 35, 105, 106] (by decide +kernel) (by decide +kernel)
set_option maxRecDepth 20000 in
theorem gX5_init_X3_init : GoodIn wsX5_init (wsX3_init) := ggX5_init_X3_init
set_option maxRecDepth 20000 in
theorem ggX5_init_X1_init : GoodIn wsX5_init wsX1_init := goodIn_r _ [73, 74, 2, 3, 29, 75, 76, 77, 78, 107, 108, 109, 110, 111] (by decide +kernel) (by decide +kernel)
set_option maxRecDepth 20000 in
theorem gX5_init_X1_init_n44 : GoodIn wsX5_init (wsX1_init) := ggX5_init_X1_init
theorem dX5_init_0 : decode cX5_init 0 = .ok (.aload_n 0, 1) := by decide +kernel
theorem dX5_init_1 : decode cX5_init 1 = .ok (.invokespecial 3, 3) := by decide +kernel
theorem dX5_init_4 : decode cX5_init 4 = .ok (.aload_n 0, 1) := by decide +kernel
theorem dX5_init_5 : decode cX5_init 5 = .ok (.new 9, 3) := by decide +kernel
theorem dX5_init_8 : decode cX5_init 8 = .ok (.dup, 1) := by decide +kernel
theorem dX5_init_9 : decode cX5_init 9 = .ok (.invokespecial 11, 3) := by decide +kernel
theorem dX5_init_12 : decode cX5_init 12 = .ok (.putfield 12, 3) := by decide +kernel
theorem dX5_init_15 : decode cX5_init 15 = .ok (.aload_n 0, 1) := by decide +kernel
theorem dX5_init_16 : decode cX5_init 16 = .ok (.new 16, 3) := by decide +kernel
theorem dX5_init_19 : decode cX5_init 19 = .ok (.dup, 1) := by decide +kernel
theorem dX5_init_20 : decode cX5_init 20 = .ok (.invokespecial 18, 3) := by decide +kernel
theorem dX5_init_23 : decode cX5_init 23 = .ok (.putfield 19, 3) := by decide +kernel
theorem dX5_init_26 : decode cX5_init 26 = .ok (.aload_n 0, 1) := by decide +kernel
theorem dX5_init_27 : decode cX5_init 27 = .ok (.new 23, 3) := by decide +kernel
theorem dX5_init_30 : decode cX5_init 30 = .ok (.dup, 1) := by decide +kernel
theorem dX5_init_31 : decode cX5_init 31 = .ok (.iconst 0, 1) := by decide +kernel
theorem dX5_init_32 : decode cX5_init 32 = .ok (.aload_n 0, 1) := by decide +kernel
theorem dX5_init_33 : decode cX5_init 33 = .ok (.getfield 19, 3) := by decide +kernel
theorem dX5_init_36 : decode cX5_init 36 = .ok (.aload_n 0, 1) := by decide +kernel
theorem dX5_init_37 : decode cX5_init 37 = .ok (.getfield 12, 3) := by decide +kernel
theorem dX5_init_40 : decode cX5_init 40 = .ok (.invokespecial 25, 3) := by decide +kernel
theorem dX5_init_43 : decode cX5_init 43 = .ok (.putfield 28, 3) := by decide +kernel
theorem dX5_init_46 : decode cX5_init 46 = .ok (.aload_n 0, 1) := by decide +kernel
theorem dX5_init_47 : decode cX5_init 47 = .ok (.new 23, 3) := by decide +kernel
theorem dX5_init_50 : decode cX5_init 50 = .ok (.dup, 1) := by decide +kernel
theorem dX5_init_51 : decode cX5_init 51 = .ok (.iconst 1, 1) := by decide +kernel
theorem dX5_init_52 : decode cX5_init 52 = .ok (.aload_n 0, 1) := by decide +kernel
theorem dX5_init_53 : decode cX5_init 53 = .ok (.getfield 19, 3) := by decide +kernel
theorem dX5_init_56 : decode cX5_init 56 = .ok (.aload_n 0, 1) := by decide +kernel
theorem dX5_init_57 : decode cX5_init 57 = .ok (.getfield 12, 3) := by decide +kernel
theorem dX5_init_60 : decode cX5_init 60 = .ok (.invokespecial 25, 3) := by decide +kernel
theorem dX5_init_63 : decode cX5_init 63 = .ok (.putfield 32, 3) := by decide +kernel
theorem dX5_init_66 : decode cX5_init 66 = .ok (.aload_n 0, 1) := by decide +kernel
theorem dX5_init_67 : decode cX5_init 67 = .ok (.new 35, 3) := by decide +kernel
theorem dX5_init_70 : decode cX5_init 70 = .ok (.dup, 1) := by decide +kernel
theorem dX5_init_71 : decode cX5_init 71 = .ok (.invokespecial 37, 3) := by decide +kernel
theorem dX5_init_74 : decode cX5_init 74 = .ok (.putfield 38, 3) := by decide +kernel
theorem dX5_init_77 : decode cX5_init 77 = .ok (.aload_n 0, 1) := by decide +kernel
theorem dX5_init_78 : decode cX5_init 78 = .ok (.new 42, 3) := by decide +kernel
theorem dX5_init_81 : decode cX5_init 81 = .ok (.dup, 1) := by decide +kernel
theorem dX5_init_82 : decode cX5_init 82 = .ok (.invokespecial 44, 3) := by decide +kernel
theorem dX5_init_85 : decode cX5_init 85 = .ok (.putfield 45, 3) := by decide +kernel
theorem dX5_init_88 : decode cX5_init 88 = .ok (.return_, 1) := by decide +kernel
set_option maxRecDepth 20000 in
theorem ggX5_setClass_X5_checkIndex : GoodIn wsX5_setClass wsX5_checkIndex := goodIn_ca (goodIn_r _ [8, 9, 10] (by decide +kernel) (by decide +kernel)) (goodIn_sub (fun _ h => List.mem_cons_of_mem _ (List.mem_append_left _ (List.mem_append_right _ h))) (by decide +kernel))
set_option maxRecDepth 20000 in
theorem gX5_setClass_X5_checkIndex : GoodIn wsX5_setClass (va_wsS RX5 49 yX5_checkIndex wsX5_checkIndex) := goodIn_app (goodIn_of _ (by decide +kernel)) ggX5_setClass_X5_checkIndex
set_option maxRecDepth 20000 in
theorem ggX5_setClass_X5_checkArgument : GoodIn wsX5_setClass wsX5_checkArgument := goodIn_ca (goodIn_r _ [13, 14, 15] (by decide +kernel) (by decide +kernel)) (goodIn_sub (fun _ h => List.mem_cons_of_mem _ (List.mem_append_right _ h)) (by decide +kernel))
set_option maxRecDepth 20000 in
theorem gX5_setClass_X5_checkArgument : GoodIn wsX5_setClass (va_wsS RX5 53 yX5_checkArgument wsX5_checkArgument) := goodIn_app (goodIn_of _ (by decide +kernel)) ggX5_setClass_X5_checkArgument
set_option maxRecDepth 20000 in
theorem ggX5_setClass_X0_define : GoodIn wsX5_setClass wsX0_define := goodIn_r _ [20, 21, 22, 23, 7, 24, 38, 39] (by decide +kernel) (by decide +kernel)
set_option maxRecDepth 20000 in
theorem gX5_setClass_X0_define : GoodIn wsX5_setClass (wsV RX5 68 RX0 yX0_define wsX0_define) := goodIn_app (goodIn_of _ (by decide +kernel)) ggX5_setClass_X0_define
theorem dX5_setClass_0 : decode cX5_setClass 0 = .ok (.iload_n 1, 1) := by decide +kernel
theorem dX5_setClass_1 : decode cX5_setClass 1 = .ok (.iconst 3, 1) := by decide +kernel
theorem dX5_setClass_2 : decode cX5_setClass 2 = .ok (.invokestatic 49, 3) := by decide +kernel
theorem dX5_setClass_5 : decode cX5_setClass 5 = .ok (.iload_n 2, 1) := by decide +kernel
theorem dX5_setClass_6 : decode cX5_setClass 6 = .ok (.iconst 0, 1) := by decide +kernel
theorem dX5_setClass_7 : decode cX5_setClass 7 = .ok (.bipush 15, 2) := by decide +kernel
theorem dX5_setClass_9 : decode cX5_setClass 9 = .ok (.invokestatic 53, 3) := by decide +kernel
theorem dX5_setClass_12 : decode cX5_setClass 12 = .ok (.iload_n 3, 1) := by decide +kernel
theorem dX5_setClass_13 : decode cX5_setClass 13 = .ok (.iconst 0, 1) := by decide +kernel
theorem dX5_setClass_14 : decode cX5_setClass 14 = .ok (.bipush 15, 2) := by decide +kernel
theorem dX5_setClass_16 : decode cX5_setClass 16 = .ok (.invokestatic 53, 3) := by decide +kernel
theorem dX5_setClass_19 : decode cX5_setClass 19 = .ok (.aload_n 0, 1) := by decide +kernel
theorem dX5_setClass_20 : decode cX5_setClass 20 = .ok (.getfield 19, 3) := by decide +kernel
theorem dX5_setClass_23 : decode cX5_setClass 23 = .ok (.getfield 57, 3) := by decide +kernel
theorem dX5_setClass_26 : decode cX5_setClass 26 = .ok (.ifCond .le 13, 3) := by decide +kernel
theorem dX5_setClass_29 : decode cX5_setClass 29 = .ok (.new 61, 3) := by decide +kernel
theorem dX5_setClass_32 : decode cX5_setClass 32 = .ok (.dup, 1) := by decide +kernel
theorem dX5_setClass_33 : decode cX5_setClass 33 = .ok (.ldc 63, 2) := by decide +kernel
theorem dX5_setClass_35 : decode cX5_setClass 35 = .ok (.invokespecial 65, 3) := by decide +kernel
theorem dX5_setClass_38 : decode cX5_setClass 38 = .ok (.athrow, 1) := by decide +kernel
theorem dX5_setClass_39 : decode cX5_setClass 39 = .ok (.aload_n 0, 1) := by decide +kernel
theorem dX5_setClass_40 : decode cX5_setClass 40 = .ok (.getfield 12, 3) := by decide +kernel
theorem dX5_setClass_43 : decode cX5_setClass 43 = .ok (.iload_n 1, 1) := by decide +kernel
theorem dX5_setClass_44 : decode cX5_setClass 44 = .ok (.iload_n 2, 1) := by decide +kernel
theorem dX5_setClass_45 : decode cX5_setClass 45 = .ok (.iload_n 3, 1) := by decide +kernel
theorem dX5_setClass_46 : decode cX5_setClass 46 = .ok (.invokevirtual 68, 3) := by decide +kernel
theorem dX5_setClass_49 : decode cX5_setClass 49 = .ok (.return_, 1) := by decide +kernel
set_option maxRecDepth 20000 in
theorem ggX5_add_X5_treeOf : GoodIn wsX5_add wsX5_treeOf := goodIn_ca (goodIn_r _ [6, 7, 8, 9, 10, 5, 11, 12, 13, 148, 149, 150, 151, 152, 153] (by decide +kernel) (by decide +kernel)) (goodIn_sub (fun _ h => List.mem_cons_of_mem _ (List.mem_append_left _ (List.mem_append_left _ (List.mem_append_right _ h)))) (by decide +kernel))
set_option maxRecDepth 20000 in
theorem gX5_add_X5_treeOf : GoodIn wsX5_add (wsV RX5 71 RX5 yX5_treeOf wsX5_treeOf) := goodIn_app (goodIn_of _ (by decide +kernel)) ggX5_add_X5_treeOf
set_option maxRecDepth 20000 in
theorem ggX5_add_X5_checkEntry : GoodIn wsX5_add wsX5_checkEntry := goodIn_ca (goodIn_r _ [16, 12, 13, 17, 18, 19, 20, 21, 22, 161, 162, 163, 164, 165, 166, 167, 168, 169, 170, 171] (by decide +kernel) (by decide +kernel)) (goodIn_sub (fun _ h => List.mem_cons_of_mem _ (List.mem_append_left _ (List.mem_append_left _ (List.mem_append_right _ h)))) (by decide +kernel))
set_option maxRecDepth 20000 in
theorem gX5_add_X5_checkEntry : GoodIn wsX5_add (va_wsS RX5 75 yX5_checkEntry wsX5_checkEntry) := goodIn_app (goodIn_of _ (by decide +kernel)) ggX5_add_X5_checkEntry
set_option maxRecDepth 20000 in
theorem ggX5_add_X5_checkIndex : GoodIn wsX5_add wsX5_checkIndex := goodIn_ca (goodIn_r _ [11, 12, 13] (by decide +kernel) (by decide +kernel)) (goodIn_sub (fun _ h => List.mem_cons_of_mem _ (List.mem_append_left _ (List.mem_append_left _ (List.mem_append_right _ h)))) (by decide +kernel))
set_option maxRecDepth 20000 in
theorem gX5_add_X5_checkIndex : GoodIn wsX5_add (va_wsS RX5 49 yX5_checkIndex wsX5_checkIndex) := goodIn_app (goodIn_of _ (by decide +kernel)) ggX5_add_X5_checkIndex
set_option maxRecDepth 20000 in
theorem ggX5_add_X5_checkArgument : GoodIn wsX5_add wsX5_checkArgument := goodIn_ca (goodIn_r _ [25, 26, 27] (by decide +kernel) (by decide +kernel)) (goodIn_sub (fun _ h => List.mem_cons_of_mem _ (List.mem_append_left _ (List.mem_append_right _ h))) (by decide +kernel))
set_option maxRecDepth 20000 in
theorem gX5_add_X5_checkArgument : GoodIn wsX5_add (va_wsS RX5 53 yX5_checkArgument wsX5_checkArgument) := goodIn_app (goodIn_of _ (by decide +kernel)) ggX5_add_X5_checkArgument
set_option maxRecDepth 20000 in
theorem ggX5_add_X5_checkRoomForChange : GoodIn wsX5_add wsX5_checkRoomForChange := goodIn_ca (goodIn_r _ [31, 32, 33, 1, 148, 149, 150, 151, 152, 153, 154, 155, 156, 157, 158, 159, 160] (by decide +kernel) (by decide +kernel)) (goodIn_sub (fun _ h => List.mem_cons_of_mem _ (List.mem_append_right _ h)) (by decide +kernel))
set_option maxRecDepth 20000 in
theorem gX5_add_X5_checkRoomForChange : GoodIn wsX5_add (wsV RX5 79 RX5 yX5_checkRoomForChange wsX5_checkRoomForChange) := goodIn_app (goodIn_of _ (by decide +kernel)) ggX5_add_X5_checkRoomForChange
set_option maxRecDepth 20000 in
theorem ggX5_add_X5_checkLabelIsFree : GoodIn wsX5_add wsX5_checkLabelIsFree := goodIn_ca (goodIn_r _ [36, 32, 33, 37, 38, 39, 20, 40, 41, 42, 43, 44, 45, 161, 162, 163, 164, 165, 166, 167, 168, 169, 170, 171] (by decide +kernel) (by decide +kernel)) (goodIn_sub (fun _ h => List.mem_cons_of_mem _ (List.mem_append_right _ h)) (by decide +kernel))
set_option maxRecDepth 20000 in
theorem gX5_add_X5_checkLabelIsFree : GoodIn wsX5_add (va_wsS RX5 82 yX5_checkLabelIsFree wsX5_checkLabelIsFree) := goodIn_app (goodIn_of _ (by decide +kernel)) ggX5_add_X5_checkLabelIsFree
set_option maxRecDepth 20000 in
theorem ggX5_add_X4_stampOfNext : GoodIn wsX5_add wsX4_stampOfNext := goodIn_r _ [49, 50, 51, 52, 53, 54, 5, 55, 56, 57, 58, 59, 60, 61, 62, 63, 64, 161, 162, 163, 164, 165, 166, 167, 168, 169, 170, 171, 154, 155, 156, 157, 158, 159, 160] (by decide +kernel) (by decide +kernel)
set_option maxRecDepth 20000 in
theorem gX5_add_X4_stampOfNext : GoodIn wsX5_add (wsV RX5 86 RX4 yX4_stampOfNext wsX4_stampOfNext) := goodIn_app (goodIn_of _ (by decide +kernel)) ggX5_add_X4_stampOfNext
set_option maxRecDepth 20000 in
theorem ggX5_add_X2_append : GoodIn wsX5_add wsX2_append := goodIn_r _ [68, 69, 70, 61, 71, 72, 73, 74, 75, 5, 76, 154, 155, 156, 157, 158, 159, 160] (by decide +kernel) (by decide +kernel)
set_option maxRecDepth 20000 in
theorem gX5_add_X2_append : GoodIn wsX5_add (wsV RX5 90 RX2 yX2_append wsX2_append) := goodIn_app (goodIn_of _ (by decide +kernel)) ggX5_add_X2_append
set_option maxRecDepth 20000 in
theorem ggX5_add_X4_learn : GoodIn wsX5_add wsX4_learn := goodIn_r _ [80, 50, 52, 81, 82, 83, 20, 84, 51, 54, 5, 55, 85, 86, 87, 59, 88, 61, 75, 76, 89, 90, 91, 92, 22, 41, 42, 93, 94, 95, 96, 97, 98, 99, 100, 101, 102, 103, 104, 105, 106, 107, 108, 109, 110, 111, 112, 18, 19, 21, 113, 38, 39, 40, 43, 44, 45, 114, 115, 116, 117, 118, 119, 120, 121, 122, 123, 124, 125, 126, 127, 128, 129, 130, 131, 132, 133, 134, 135, 136, 137, 138, 139, 140, 141, 142, 143, 144, 145, 146, 147, 161, 162, 163, 164, 165, 166, 167, 168, 169, 170, 171, 154, 155, 156, 157, 158, 159, 160, 172, 173] (by decide +kernel) (by decide +kernel)
set_option maxRecDepth 20000 in
theorem gX5_add_X4_learn : GoodIn wsX5_add (wsV RX5 94 RX4 yX4_learn wsX4_learn) := goodIn_app (goodIn_of _ (by decide +kernel)) ggX5_add_X4_learn
theorem dX5_add_0 : decode cX5_add 0 = .ok (.aload_n 0, 1) := by decide +kernel
theorem dX5_add_1 : decode cX5_add 1 = .ok (.iload_n 1, 1) := by decide +kernel
theorem dX5_add_2 : decode cX5_add 2 = .ok (.invokevirtual 71, 3) := by decide +kernel
theorem dX5_add_5 : decode cX5_add 5 = .ok (.astore 5, 2) := by decide +kernel
theorem dX5_add_7 : decode cX5_add 7 = .ok (.aload 5, 2) := by decide +kernel
theorem dX5_add_9 : decode cX5_add 9 = .ok (.iload_n 2, 1) := by decide +kernel
theorem dX5_add_10 : decode cX5_add 10 = .ok (.invokestatic 75, 3) := by decide +kernel
theorem dX5_add_13 : decode cX5_add 13 = .ok (.iload 4, 2) := by decide +kernel
theorem dX5_add_15 : decode cX5_add 15 = .ok (.iconst 3, 1) := by decide +kernel
theorem dX5_add_16 : decode cX5_add 16 = .ok (.invokestatic 49, 3) := by decide +kernel
theorem dX5_add_19 : decode cX5_add 19 = .ok (.iload_n 3, 1) := by decide +kernel
theorem dX5_add_20 : decode cX5_add 20 = .ok (.iconst 0, 1) := by decide +kernel
theorem dX5_add_21 : decode cX5_add 21 = .ok (.bipush 99, 2) := by decide +kernel
theorem dX5_add_23 : decode cX5_add 23 = .ok (.invokestatic 53, 3) := by decide +kernel
theorem dX5_add_26 : decode cX5_add 26 = .ok (.aload_n 0, 1) := by decide +kernel
theorem dX5_add_27 : decode cX5_add 27 = .ok (.invokevirtual 79, 3) := by decide +kernel
theorem dX5_add_30 : decode cX5_add 30 = .ok (.aload 5, 2) := by decide +kernel
theorem dX5_add_32 : decode cX5_add 32 = .ok (.iload_n 2, 1) := by decide +kernel
theorem dX5_add_33 : decode cX5_add 33 = .ok (.iload_n 3, 1) := by decide +kernel
theorem dX5_add_34 : decode cX5_add 34 = .ok (.iconst (-1), 1) := by decide +kernel
theorem dX5_add_35 : decode cX5_add 35 = .ok (.invokestatic 82, 3) := by decide +kernel
theorem dX5_add_38 : decode cX5_add 38 = .ok (.aload_n 0, 1) := by decide +kernel
theorem dX5_add_39 : decode cX5_add 39 = .ok (.getfield 19, 3) := by decide +kernel
theorem dX5_add_42 : decode cX5_add 42 = .ok (.getfield 57, 3) := by decide +kernel
theorem dX5_add_45 : decode cX5_add 45 = .ok (.iconst 2, 1) := by decide +kernel
theorem dX5_add_46 : decode cX5_add 46 = .ok (.iadd, 1) := by decide +kernel
theorem dX5_add_47 : decode cX5_add 47 = .ok (.istore 6, 2) := by decide +kernel
theorem dX5_add_49 : decode cX5_add 49 = .ok (.aload 5, 2) := by decide +kernel
theorem dX5_add_51 : decode cX5_add 51 = .ok (.aload_n 0, 1) := by decide +kernel
theorem dX5_add_52 : decode cX5_add 52 = .ok (.getfield 19, 3) := by decide +kernel
theorem dX5_add_55 : decode cX5_add 55 = .ok (.iconst 0, 1) := by decide +kernel
theorem dX5_add_56 : decode cX5_add 56 = .ok (.aload 5, 2) := by decide +kernel
theorem dX5_add_58 : decode cX5_add 58 = .ok (.invokevirtual 86, 3) := by decide +kernel
theorem dX5_add_61 : decode cX5_add 61 = .ok (.iload 6, 2) := by decide +kernel
theorem dX5_add_63 : decode cX5_add 63 = .ok (.iload_n 2, 1) := by decide +kernel
theorem dX5_add_64 : decode cX5_add 64 = .ok (.iload_n 3, 1) := by decide +kernel
theorem dX5_add_65 : decode cX5_add 65 = .ok (.iload 4, 2) := by decide +kernel
theorem dX5_add_67 : decode cX5_add 67 = .ok (.invokevirtual 90, 3) := by decide +kernel
theorem dX5_add_70 : decode cX5_add 70 = .ok (.invokevirtual 94, 3) := by decide +kernel
theorem dX5_add_73 : decode cX5_add 73 = .ok (.iload 6, 2) := by decide +kernel
theorem dX5_add_75 : decode cX5_add 75 = .ok (.ireturn, 1) := by decide +kernel
set_option maxRecDepth 20000 in
theorem ggX5_set_X5_treeOf : GoodIn wsX5_set wsX5_treeOf := goodIn_ca (goodIn_r _ [8, 9, 10, 11, 12, 7, 13, 14, 15, 149, 150, 151, 152, 153, 154] (by decide +kernel) (by decide +kernel)) (goodIn_sub (fun _ h => List.mem_cons_of_mem _ (List.mem_append_left _ (List.mem_append_right _ h))) (by decide +kernel))
set_option maxRecDepth 20000 in
theorem gX5_set_X5_treeOf : GoodIn wsX5_set (wsV RX5 71 RX5 yX5_treeOf wsX5_treeOf) := goodIn_app (goodIn_of _ (by decide +kernel)) ggX5_set_X5_treeOf
set_option maxRecDepth 20000 in
theorem ggX5_set_X5_checkEntry : GoodIn wsX5_set wsX5_checkEntry := goodIn_ca (goodIn_r _ [18, 14, 15, 19, 20, 21, 22, 23, 24, 155, 156, 157, 158, 159, 160, 161, 162, 163, 164, 165] (by decide +kernel) (by decide +kernel)) (goodIn_sub (fun _ h => List.mem_cons_of_mem _ (List.mem_append_left _ (List.mem_append_right _ h))) (by decide +kernel))
set_option maxRecDepth 20000 in
theorem gX5_set_X5_checkEntry : GoodIn wsX5_set (va_wsS RX5 75 yX5_checkEntry wsX5_checkEntry) := goodIn_app (goodIn_of _ (by decide +kernel)) ggX5_set_X5_checkEntry
set_option maxRecDepth 20000 in
theorem ggX5_set_X5_checkIndex : GoodIn wsX5_set wsX5_checkIndex := goodIn_ca (goodIn_r _ [13, 14, 15] (by decide +kernel) (by decide +kernel)) (goodIn_sub (fun _ h => List.mem_cons_of_mem _ (List.mem_append_left _ (List.mem_append_right _ h))) (by decide +kernel))
set_option maxRecDepth 20000 in
theorem gX5_set_X5_checkIndex : GoodIn wsX5_set (va_wsS RX5 49 yX5_checkIndex wsX5_checkIndex) := goodIn_app (goodIn_of _ (by decide +kernel)) ggX5_set_X5_checkIndex
set_option maxRecDepth 20000 in
theorem ggX5_set_X5_checkArgument : GoodIn wsX5_set wsX5_checkArgument := goodIn_ca (goodIn_r _ [27, 28, 29] (by decide +kernel) (by decide +kernel)) (goodIn_sub (fun _ h => List.mem_cons_of_mem _ (List.mem_append_right _ h)) (by decide +kernel))
set_option maxRecDepth 20000 in
theorem gX5_set_X5_checkArgument : GoodIn wsX5_set (va_wsS RX5 53 yX5_checkArgument wsX5_checkArgument) := goodIn_app (goodIn_of _ (by decide +kernel)) ggX5_set_X5_checkArgument
set_option maxRecDepth 20000 in
theorem ggX5_set_X5_checkRoomForChange : GoodIn wsX5_set wsX5_checkRoomForChange := goodIn_ca (goodIn_r _ [33, 1, 2, 3, 149, 150, 151, 152, 153, 154, 166, 167, 168, 169, 170, 171, 172] (by decide +kernel) (by decide +kernel)) (goodIn_sub (fun _ h => List.mem_cons_of_mem _ (List.mem_append_left _ (List.mem_append_left _ (List.mem_append_right _ h)))) (by decide +kernel))
set_option maxRecDepth 20000 in
theorem gX5_set_X5_checkRoomForChange : GoodIn wsX5_set (wsV RX5 79 RX5 yX5_checkRoomForChange wsX5_checkRoomForChange) := goodIn_app (goodIn_of _ (by decide +kernel)) ggX5_set_X5_checkRoomForChange
set_option maxRecDepth 20000 in
theorem ggX5_set_X4_mayHold : GoodIn wsX5_set wsX4_mayHold := goodIn_r _ [37, 38, 39, 40, 7, 41, 42, 43, 44, 45, 46, 47, 48, 49, 50, 155, 156, 157, 158, 159, 160, 161, 162, 163, 164, 165, 173, 174] (by decide +kernel) (by decide +kernel)
set_option maxRecDepth 20000 in
theorem gX5_set_X4_mayHold : GoodIn wsX5_set (wsV RX5 98 RX4 yX4_mayHold wsX4_mayHold) := goodIn_app (goodIn_of _ (by decide +kernel)) ggX5_set_X4_mayHold
set_option maxRecDepth 20000 in
theorem ggX5_set_X4_valueAt : GoodIn wsX5_set wsX4_valueAt := goodIn_r _ [54, 55, 40, 7, 41, 155, 156, 157, 158, 159, 160, 161, 162, 163, 164, 165] (by decide +kernel) (by decide +kernel)
set_option maxRecDepth 20000 in
theorem gX5_set_X4_valueAt : GoodIn wsX5_set (wsV RX5 104 RX4 yX4_valueAt wsX4_valueAt) := goodIn_app (goodIn_of _ (by decide +kernel)) ggX5_set_X4_valueAt
set_option maxRecDepth 20000 in
theorem ggX5_set_X4_stampOfNext : GoodIn wsX5_set wsX4_stampOfNext := goodIn_r _ [59, 60, 61, 62, 63, 40, 7, 41, 64, 65, 66, 67, 68, 69, 70, 71, 72, 155, 156, 157, 158, 159, 160, 161, 162, 163, 164, 165, 166, 167, 168, 169, 170, 171, 172] (by decide +kernel) (by decide +kernel)
set_option maxRecDepth 20000 in
theorem gX5_set_X4_stampOfNext : GoodIn wsX5_set (wsV RX5 86 RX4 yX4_stampOfNext wsX4_stampOfNext) := goodIn_app (goodIn_of _ (by decide +kernel)) ggX5_set_X4_stampOfNext
set_option maxRecDepth 20000 in
theorem ggX5_set_X2_append : GoodIn wsX5_set wsX2_append := goodIn_r _ [76, 77, 78, 69, 79, 80, 81, 82, 83, 7, 84, 166, 167, 168, 169, 170, 171, 172] (by decide +kernel) (by decide +kernel)
set_option maxRecDepth 20000 in
theorem gX5_set_X2_append : GoodIn wsX5_set (wsV RX5 90 RX2 yX2_append wsX2_append) := goodIn_app (goodIn_of _ (by decide +kernel)) ggX5_set_X2_append
set_option maxRecDepth 20000 in
theorem ggX5_set_X4_learn : GoodIn wsX5_set wsX4_learn := goodIn_r _ [88, 60, 62, 89, 90, 91, 22, 92, 61, 40, 7, 41, 93, 94, 95, 67, 96, 69, 83, 84, 97, 98, 99, 100, 24, 101, 102, 39, 55, 103, 104, 105, 106, 107, 108, 109, 110, 111, 112, 113, 114, 115, 116, 117, 118, 119, 120, 20, 21, 23, 121, 122, 123, 124, 125, 126, 127, 128, 129, 130, 131, 132, 35, 36, 37, 38, 42, 43, 44, 45, 46, 47, 48, 49, 50, 133, 134, 135, 136, 137, 138, 139, 140, 141, 142, 143, 144, 145, 146, 147, 148, 155, 156, 157, 158, 159, 160, 161, 162, 163, 164, 165, 166, 167, 168, 169, 170, 171, 172, 173, 174] (by decide +kernel) (by decide +kernel)
set_option maxRecDepth 20000 in
theorem gX5_set_X4_learn : GoodIn wsX5_set (wsV RX5 94 RX4 yX4_learn wsX4_learn) := goodIn_app (goodIn_of _ (by decide +kernel)) ggX5_set_X4_learn
theorem dX5_set_0 : decode cX5_set 0 = .ok (.aload_n 0, 1) := by decide +kernel
theorem dX5_set_1 : decode cX5_set 1 = .ok (.iload_n 1, 1) := by decide +kernel
theorem dX5_set_2 : decode cX5_set 2 = .ok (.invokevirtual 71, 3) := by decide +kernel
theorem dX5_set_5 : decode cX5_set 5 = .ok (.astore 5, 2) := by decide +kernel
theorem dX5_set_7 : decode cX5_set 7 = .ok (.aload 5, 2) := by decide +kernel
theorem dX5_set_9 : decode cX5_set 9 = .ok (.iload_n 2, 1) := by decide +kernel
theorem dX5_set_10 : decode cX5_set 10 = .ok (.invokestatic 75, 3) := by decide +kernel
theorem dX5_set_13 : decode cX5_set 13 = .ok (.iload_n 3, 1) := by decide +kernel
theorem dX5_set_14 : decode cX5_set 14 = .ok (.iconst 4, 1) := by decide +kernel
theorem dX5_set_15 : decode cX5_set 15 = .ok (.invokestatic 49, 3) := by decide +kernel
theorem dX5_set_18 : decode cX5_set 18 = .ok (.iload 4, 2) := by decide +kernel
theorem dX5_set_20 : decode cX5_set 20 = .ok (.iconst (-1), 1) := by decide +kernel
theorem dX5_set_21 : decode cX5_set 21 = .ok (.bipush 9, 2) := by decide +kernel
theorem dX5_set_23 : decode cX5_set 23 = .ok (.invokestatic 53, 3) := by decide +kernel
theorem dX5_set_26 : decode cX5_set 26 = .ok (.aload_n 0, 1) := by decide +kernel
theorem dX5_set_27 : decode cX5_set 27 = .ok (.invokevirtual 79, 3) := by decide +kernel
theorem dX5_set_30 : decode cX5_set 30 = .ok (.aload 5, 2) := by decide +kernel
theorem dX5_set_32 : decode cX5_set 32 = .ok (.iload_n 2, 1) := by decide +kernel
theorem dX5_set_33 : decode cX5_set 33 = .ok (.iload_n 3, 1) := by decide +kernel
theorem dX5_set_34 : decode cX5_set 34 = .ok (.invokevirtual 98, 3) := by decide +kernel
theorem dX5_set_37 : decode cX5_set 37 = .ok (.ifCond .ne 13, 3) := by decide +kernel
theorem dX5_set_40 : decode cX5_set 40 = .ok (.new 61, 3) := by decide +kernel
theorem dX5_set_43 : decode cX5_set 43 = .ok (.dup, 1) := by decide +kernel
theorem dX5_set_44 : decode cX5_set 44 = .ok (.ldc 102, 2) := by decide +kernel
theorem dX5_set_46 : decode cX5_set 46 = .ok (.invokespecial 65, 3) := by decide +kernel
theorem dX5_set_49 : decode cX5_set 49 = .ok (.athrow, 1) := by decide +kernel
theorem dX5_set_50 : decode cX5_set 50 = .ok (.aload 5, 2) := by decide +kernel
theorem dX5_set_52 : decode cX5_set 52 = .ok (.iload_n 2, 1) := by decide +kernel
theorem dX5_set_53 : decode cX5_set 53 = .ok (.iload_n 3, 1) := by decide +kernel
theorem dX5_set_54 : decode cX5_set 54 = .ok (.invokevirtual 104, 3) := by decide +kernel
theorem dX5_set_57 : decode cX5_set 57 = .ok (.istore 6, 2) := by decide +kernel
theorem dX5_set_59 : decode cX5_set 59 = .ok (.aload 5, 2) := by decide +kernel
theorem dX5_set_61 : decode cX5_set 61 = .ok (.aload_n 0, 1) := by decide +kernel
theorem dX5_set_62 : decode cX5_set 62 = .ok (.getfield 19, 3) := by decide +kernel
theorem dX5_set_65 : decode cX5_set 65 = .ok (.iconst 1, 1) := by decide +kernel
theorem dX5_set_66 : decode cX5_set 66 = .ok (.aload 5, 2) := by decide +kernel
theorem dX5_set_68 : decode cX5_set 68 = .ok (.invokevirtual 86, 3) := by decide +kernel
theorem dX5_set_71 : decode cX5_set 71 = .ok (.iload_n 2, 1) := by decide +kernel
theorem dX5_set_72 : decode cX5_set 72 = .ok (.iload_n 3, 1) := by decide +kernel
theorem dX5_set_73 : decode cX5_set 73 = .ok (.iload 4, 2) := by decide +kernel
theorem dX5_set_75 : decode cX5_set 75 = .ok (.iconst (-1), 1) := by decide +kernel
theorem dX5_set_76 : decode cX5_set 76 = .ok (.invokevirtual 90, 3) := by decide +kernel
theorem dX5_set_79 : decode cX5_set 79 = .ok (.invokevirtual 94, 3) := by decide +kernel
theorem dX5_set_82 : decode cX5_set 82 = .ok (.iload 6, 2) := by decide +kernel
theorem dX5_set_84 : decode cX5_set 84 = .ok (.ireturn, 1) := by decide +kernel
set_option maxRecDepth 20000 in
theorem ggX5_move_X5_treeOf : GoodIn wsX5_move wsX5_treeOf := goodIn_ca (goodIn_r _ [8, 9, 10, 11, 12, 7, 13, 14, 15, 153, 154, 155, 156, 157, 158] (by decide +kernel) (by decide +kernel)) (goodIn_sub (fun _ h => List.mem_cons_of_mem _ (List.mem_append_left _ (List.mem_append_right _ h))) (by decide +kernel))
set_option maxRecDepth 20000 in
theorem gX5_move_X5_treeOf : GoodIn wsX5_move (wsV RX5 71 RX5 yX5_treeOf wsX5_treeOf) := goodIn_app (goodIn_of _ (by decide +kernel)) ggX5_move_X5_treeOf
set_option maxRecDepth 20000 in
theorem ggX5_move_X5_checkEntry : GoodIn wsX5_move wsX5_checkEntry := goodIn_ca (goodIn_r _ [18, 14, 15, 19, 20, 21, 22, 23, 24, 159, 160, 161, 162, 163, 164, 165, 166, 167, 168, 169] (by decide +kernel) (by decide +kernel)) (goodIn_sub (fun _ h => List.mem_cons_of_mem _ (List.mem_append_left _ (List.mem_append_right _ h))) (by decide +kernel))
set_option maxRecDepth 20000 in
theorem gX5_move_X5_checkEntry : GoodIn wsX5_move (va_wsS RX5 75 yX5_checkEntry wsX5_checkEntry) := goodIn_app (goodIn_of _ (by decide +kernel)) ggX5_move_X5_checkEntry
set_option maxRecDepth 20000 in
theorem ggX5_move_X5_checkArgument : GoodIn wsX5_move wsX5_checkArgument := goodIn_ca (goodIn_r _ [27, 28, 29] (by decide +kernel) (by decide +kernel)) (goodIn_sub (fun _ h => List.mem_cons_of_mem _ (List.mem_append_right _ h)) (by decide +kernel))
set_option maxRecDepth 20000 in
theorem gX5_move_X5_checkArgument : GoodIn wsX5_move (va_wsS RX5 53 yX5_checkArgument wsX5_checkArgument) := goodIn_app (goodIn_of _ (by decide +kernel)) ggX5_move_X5_checkArgument
set_option maxRecDepth 20000 in
theorem ggX5_move_X5_checkRoomForChange : GoodIn wsX5_move wsX5_checkRoomForChange := goodIn_ca (goodIn_r _ [33, 1, 2, 3, 153, 154, 155, 156, 157, 158, 170, 171, 172, 173, 174, 175, 176] (by decide +kernel) (by decide +kernel)) (goodIn_sub (fun _ h => List.mem_cons_of_mem _ (List.mem_append_left _ (List.mem_append_left _ (List.mem_append_right _ h)))) (by decide +kernel))
set_option maxRecDepth 20000 in
theorem gX5_move_X5_checkRoomForChange : GoodIn wsX5_move (wsV RX5 79 RX5 yX5_checkRoomForChange wsX5_checkRoomForChange) := goodIn_app (goodIn_of _ (by decide +kernel)) ggX5_move_X5_checkRoomForChange
set_option maxRecDepth 20000 in
theorem ggX5_move_X5_checkIsNotFixed : GoodIn wsX5_move wsX5_checkIsNotFixed := goodIn_ca (goodIn_r _ [36, 1, 2] (by decide +kernel) (by decide +kernel)) (goodIn_sub (fun _ h => List.mem_cons_of_mem _ (List.mem_append_left _ (List.mem_append_left _ (List.mem_append_right _ h)))) (by decide +kernel))
set_option maxRecDepth 20000 in
theorem gX5_move_X5_checkIsNotFixed : GoodIn wsX5_move (va_wsS RX5 108 yX5_checkIsNotFixed wsX5_checkIsNotFixed) := goodIn_app (goodIn_of _ (by decide +kernel)) ggX5_move_X5_checkIsNotFixed
set_option maxRecDepth 20000 in
theorem ggX5_move_X4_isAtOrBelow : GoodIn wsX5_move wsX4_isAtOrBelow := goodIn_r _ [40, 41, 42, 43, 22, 44, 45, 46, 7, 47, 159, 160, 161, 162, 163, 164, 165, 166, 167, 168, 169] (by decide +kernel) (by decide +kernel)
set_option maxRecDepth 20000 in
theorem gX5_move_X4_isAtOrBelow : GoodIn wsX5_move (wsV RX5 111 RX4 yX4_isAtOrBelow wsX4_isAtOrBelow) := goodIn_app (goodIn_of _ (by decide +kernel)) ggX5_move_X4_isAtOrBelow
set_option maxRecDepth 20000 in
theorem ggX5_move_X5_checkLabelIsFree : GoodIn wsX5_move wsX5_checkLabelIsFree := goodIn_ca (goodIn_r _ [50, 1, 2, 51, 52, 53, 22, 54, 45, 55, 56, 57, 58, 159, 160, 161, 162, 163, 164, 165, 166, 167, 168, 169] (by decide +kernel) (by decide +kernel)) (goodIn_sub (fun _ h => List.mem_cons_of_mem _ (List.mem_append_left _ (List.mem_append_left _ (List.mem_append_right _ h)))) (by decide +kernel))
set_option maxRecDepth 20000 in
theorem gX5_move_X5_checkLabelIsFree : GoodIn wsX5_move (va_wsS RX5 82 yX5_checkLabelIsFree wsX5_checkLabelIsFree) := goodIn_app (goodIn_of _ (by decide +kernel)) ggX5_move_X5_checkLabelIsFree
set_option maxRecDepth 20000 in
theorem ggX5_move_X4_parentAt : GoodIn wsX5_move wsX4_parentAt := goodIn_r _ [44, 45, 46, 7, 47, 159, 160, 161, 162, 163, 164, 165, 166, 167, 168, 169] (by decide +kernel) (by decide +kernel)
set_option maxRecDepth 20000 in
theorem gX5_move_X4_parentAt : GoodIn wsX5_move (wsV RX5 116 RX4 yX4_parentAt wsX4_parentAt) := goodIn_app (goodIn_of _ (by decide +kernel)) ggX5_move_X4_parentAt
set_option maxRecDepth 20000 in
theorem ggX5_move_X4_stampOfNext : GoodIn wsX5_move wsX4_stampOfNext := goodIn_r _ [63, 64, 65, 66, 67, 46, 7, 47, 68, 69, 70, 71, 72, 73, 74, 75, 76, 159, 160, 161, 162, 163, 164, 165, 166, 167, 168, 169, 170, 171, 172, 173, 174, 175, 176] (by decide +kernel) (by decide +kernel)
set_option maxRecDepth 20000 in
theorem gX5_move_X4_stampOfNext : GoodIn wsX5_move (wsV RX5 86 RX4 yX4_stampOfNext wsX4_stampOfNext) := goodIn_app (goodIn_of _ (by decide +kernel)) ggX5_move_X4_stampOfNext
set_option maxRecDepth 20000 in
theorem ggX5_move_X2_append : GoodIn wsX5_move wsX2_append := goodIn_r _ [80, 81, 82, 73, 83, 84, 85, 86, 87, 7, 88, 170, 171, 172, 173, 174, 175, 176] (by decide +kernel) (by decide +kernel)
set_option maxRecDepth 20000 in
theorem gX5_move_X2_append : GoodIn wsX5_move (wsV RX5 90 RX2 yX2_append wsX2_append) := goodIn_app (goodIn_of _ (by decide +kernel)) ggX5_move_X2_append
set_option maxRecDepth 20000 in
theorem ggX5_move_X4_learn : GoodIn wsX5_move wsX4_learn := goodIn_r _ [92, 64, 66, 93, 94, 95, 22, 96, 65, 46, 7, 47, 97, 98, 99, 71, 100, 73, 87, 88, 101, 102, 103, 104, 24, 45, 55, 105, 106, 107, 108, 109, 110, 111, 112, 113, 114, 115, 116, 117, 118, 119, 120, 121, 122, 123, 124, 20, 21, 23, 125, 52, 53, 54, 56, 57, 58, 126, 127, 128, 129, 130, 131, 132, 133, 134, 135, 136, 137, 138, 139, 140, 141, 142, 143, 144, 145, 146, 147, 148, 38, 39, 40, 41, 42, 43, 44, 149, 150, 151, 152, 159, 160, 161, 162, 163, 164, 165, 166, 167, 168, 169, 170, 171, 172, 173, 174, 175, 176, 177, 178] (by decide +kernel) (by decide +kernel)
set_option maxRecDepth 20000 in
theorem gX5_move_X4_learn : GoodIn wsX5_move (wsV RX5 94 RX4 yX4_learn wsX4_learn) := goodIn_app (goodIn_of _ (by decide +kernel)) ggX5_move_X4_learn
theorem dX5_move_0 : decode cX5_move 0 = .ok (.aload_n 0, 1) := by decide +kernel
theorem dX5_move_1 : decode cX5_move 1 = .ok (.iload_n 1, 1) := by decide +kernel
theorem dX5_move_2 : decode cX5_move 2 = .ok (.invokevirtual 71, 3) := by decide +kernel
theorem dX5_move_5 : decode cX5_move 5 = .ok (.astore 5, 2) := by decide +kernel
theorem dX5_move_7 : decode cX5_move 7 = .ok (.aload 5, 2) := by decide +kernel
theorem dX5_move_9 : decode cX5_move 9 = .ok (.iload_n 2, 1) := by decide +kernel
theorem dX5_move_10 : decode cX5_move 10 = .ok (.invokestatic 75, 3) := by decide +kernel
theorem dX5_move_13 : decode cX5_move 13 = .ok (.aload 5, 2) := by decide +kernel
theorem dX5_move_15 : decode cX5_move 15 = .ok (.iload_n 3, 1) := by decide +kernel
theorem dX5_move_16 : decode cX5_move 16 = .ok (.invokestatic 75, 3) := by decide +kernel
theorem dX5_move_19 : decode cX5_move 19 = .ok (.iload 4, 2) := by decide +kernel
theorem dX5_move_21 : decode cX5_move 21 = .ok (.iconst 0, 1) := by decide +kernel
theorem dX5_move_22 : decode cX5_move 22 = .ok (.bipush 99, 2) := by decide +kernel
theorem dX5_move_24 : decode cX5_move 24 = .ok (.invokestatic 53, 3) := by decide +kernel
theorem dX5_move_27 : decode cX5_move 27 = .ok (.aload_n 0, 1) := by decide +kernel
theorem dX5_move_28 : decode cX5_move 28 = .ok (.invokevirtual 79, 3) := by decide +kernel
theorem dX5_move_31 : decode cX5_move 31 = .ok (.iload_n 2, 1) := by decide +kernel
theorem dX5_move_32 : decode cX5_move 32 = .ok (.invokestatic 108, 3) := by decide +kernel
theorem dX5_move_35 : decode cX5_move 35 = .ok (.aload 5, 2) := by decide +kernel
theorem dX5_move_37 : decode cX5_move 37 = .ok (.iload_n 3, 1) := by decide +kernel
theorem dX5_move_38 : decode cX5_move 38 = .ok (.iload_n 2, 1) := by decide +kernel
theorem dX5_move_39 : decode cX5_move 39 = .ok (.invokevirtual 111, 3) := by decide +kernel
theorem dX5_move_42 : decode cX5_move 42 = .ok (.ifCond .eq 13, 3) := by decide +kernel
theorem dX5_move_45 : decode cX5_move 45 = .ok (.new 61, 3) := by decide +kernel
theorem dX5_move_48 : decode cX5_move 48 = .ok (.dup, 1) := by decide +kernel
theorem dX5_move_49 : decode cX5_move 49 = .ok (.ldc 114, 2) := by decide +kernel
theorem dX5_move_51 : decode cX5_move 51 = .ok (.invokespecial 65, 3) := by decide +kernel
theorem dX5_move_54 : decode cX5_move 54 = .ok (.athrow, 1) := by decide +kernel
theorem dX5_move_55 : decode cX5_move 55 = .ok (.aload 5, 2) := by decide +kernel
theorem dX5_move_57 : decode cX5_move 57 = .ok (.iload_n 3, 1) := by decide +kernel
theorem dX5_move_58 : decode cX5_move 58 = .ok (.iload 4, 2) := by decide +kernel
theorem dX5_move_60 : decode cX5_move 60 = .ok (.iload_n 2, 1) := by decide +kernel
theorem dX5_move_61 : decode cX5_move 61 = .ok (.invokestatic 82, 3) := by decide +kernel
theorem dX5_move_64 : decode cX5_move 64 = .ok (.aload 5, 2) := by decide +kernel
theorem dX5_move_66 : decode cX5_move 66 = .ok (.iload_n 2, 1) := by decide +kernel
theorem dX5_move_67 : decode cX5_move 67 = .ok (.invokevirtual 116, 3) := by decide +kernel
theorem dX5_move_70 : decode cX5_move 70 = .ok (.istore 6, 2) := by decide +kernel
theorem dX5_move_72 : decode cX5_move 72 = .ok (.aload 5, 2) := by decide +kernel
theorem dX5_move_74 : decode cX5_move 74 = .ok (.aload_n 0, 1) := by decide +kernel
theorem dX5_move_75 : decode cX5_move 75 = .ok (.getfield 19, 3) := by decide +kernel
theorem dX5_move_78 : decode cX5_move 78 = .ok (.iconst 2, 1) := by decide +kernel
theorem dX5_move_79 : decode cX5_move 79 = .ok (.aload 5, 2) := by decide +kernel
theorem dX5_move_81 : decode cX5_move 81 = .ok (.invokevirtual 86, 3) := by decide +kernel
theorem dX5_move_84 : decode cX5_move 84 = .ok (.iload_n 2, 1) := by decide +kernel
theorem dX5_move_85 : decode cX5_move 85 = .ok (.iload_n 3, 1) := by decide +kernel
theorem dX5_move_86 : decode cX5_move 86 = .ok (.iload 4, 2) := by decide +kernel
theorem dX5_move_88 : decode cX5_move 88 = .ok (.iconst (-1), 1) := by decide +kernel
theorem dX5_move_89 : decode cX5_move 89 = .ok (.invokevirtual 90, 3) := by decide +kernel
theorem dX5_move_92 : decode cX5_move 92 = .ok (.invokevirtual 94, 3) := by decide +kernel
theorem dX5_move_95 : decode cX5_move 95 = .ok (.iload 6, 2) := by decide +kernel
theorem dX5_move_97 : decode cX5_move 97 = .ok (.ireturn, 1) := by decide +kernel
set_option maxRecDepth 20000 in
theorem ggX5_delete_X5_treeOf : GoodIn wsX5_delete wsX5_treeOf := goodIn_ca (goodIn_r _ [8, 9, 10, 11, 12, 7, 13, 14, 15, 146, 147, 148, 149, 150, 151] (by decide +kernel) (by decide +kernel)) (goodIn_sub (fun _ h => List.mem_cons_of_mem _ (List.mem_append_right _ h)) (by decide +kernel))
set_option maxRecDepth 20000 in
theorem gX5_delete_X5_treeOf : GoodIn wsX5_delete (wsV RX5 71 RX5 yX5_treeOf wsX5_treeOf) := goodIn_app (goodIn_of _ (by decide +kernel)) ggX5_delete_X5_treeOf
set_option maxRecDepth 20000 in
theorem ggX5_delete_X5_checkEntry : GoodIn wsX5_delete wsX5_checkEntry := goodIn_ca (goodIn_r _ [18, 14, 15, 19, 20, 21, 22, 23, 24, 152, 153, 154, 155, 156, 157, 158, 159, 160, 161, 162] (by decide +kernel) (by decide +kernel)) (goodIn_sub (fun _ h => List.mem_cons_of_mem _ (List.mem_append_right _ h)) (by decide +kernel))
set_option maxRecDepth 20000 in
theorem gX5_delete_X5_checkEntry : GoodIn wsX5_delete (va_wsS RX5 75 yX5_checkEntry wsX5_checkEntry) := goodIn_app (goodIn_of _ (by decide +kernel)) ggX5_delete_X5_checkEntry
set_option maxRecDepth 20000 in
theorem ggX5_delete_X5_checkRoomForChange : GoodIn wsX5_delete wsX5_checkRoomForChange := goodIn_ca (goodIn_r _ [28, 1, 2, 3, 146, 147, 148, 149, 150, 151, 163, 164, 165, 166, 167, 168, 169] (by decide +kernel) (by decide +kernel)) (goodIn_sub (fun _ h => List.mem_cons_of_mem _ (List.mem_append_left _ (List.mem_append_right _ h))) (by decide +kernel))
set_option maxRecDepth 20000 in
theorem gX5_delete_X5_checkRoomForChange : GoodIn wsX5_delete (wsV RX5 79 RX5 yX5_checkRoomForChange wsX5_checkRoomForChange) := goodIn_app (goodIn_of _ (by decide +kernel)) ggX5_delete_X5_checkRoomForChange
set_option maxRecDepth 20000 in
theorem ggX5_delete_X5_checkIsNotFixed : GoodIn wsX5_delete wsX5_checkIsNotFixed := goodIn_ca (goodIn_r _ [31, 1, 2] (by decide +kernel) (by decide +kernel)) (goodIn_sub (fun _ h => List.mem_cons_of_mem _ (List.mem_append_left _ (List.mem_append_right _ h))) (by decide +kernel))
set_option maxRecDepth 20000 in
theorem gX5_delete_X5_checkIsNotFixed : GoodIn wsX5_delete (va_wsS RX5 108 yX5_checkIsNotFixed wsX5_checkIsNotFixed) := goodIn_app (goodIn_of _ (by decide +kernel)) ggX5_delete_X5_checkIsNotFixed
set_option maxRecDepth 20000 in
theorem ggX5_delete_X4_hasChild : GoodIn wsX5_delete wsX4_hasChild := goodIn_r _ [35, 36, 152, 153, 154, 155, 156, 157, 158, 159, 160, 161, 162] (by decide +kernel) (by decide +kernel)
set_option maxRecDepth 20000 in
theorem gX5_delete_X4_hasChild : GoodIn wsX5_delete (wsV RX5 120 RX4 yX4_hasChild wsX4_hasChild) := goodIn_app (goodIn_of _ (by decide +kernel)) ggX5_delete_X4_hasChild
set_option maxRecDepth 20000 in
theorem ggX5_delete_X4_stampOfNext : GoodIn wsX5_delete wsX4_stampOfNext := goodIn_r _ [40, 41, 42, 43, 44, 45, 7, 46, 47, 48, 49, 50, 51, 52, 53, 54, 55, 152, 153, 154, 155, 156, 157, 158, 159, 160, 161, 162, 163, 164, 165, 166, 167, 168, 169] (by decide +kernel) (by decide +kernel)
set_option maxRecDepth 20000 in
theorem gX5_delete_X4_stampOfNext : GoodIn wsX5_delete (wsV RX5 86 RX4 yX4_stampOfNext wsX4_stampOfNext) := goodIn_app (goodIn_of _ (by decide +kernel)) ggX5_delete_X4_stampOfNext
set_option maxRecDepth 20000 in
theorem ggX5_delete_X2_append : GoodIn wsX5_delete wsX2_append := goodIn_r _ [59, 60, 61, 52, 62, 63, 64, 65, 66, 7, 67, 163, 164, 165, 166, 167, 168, 169] (by decide +kernel) (by decide +kernel)
set_option maxRecDepth 20000 in
theorem gX5_delete_X2_append : GoodIn wsX5_delete (wsV RX5 90 RX2 yX2_append wsX2_append) := goodIn_app (goodIn_of _ (by decide +kernel)) ggX5_delete_X2_append
set_option maxRecDepth 20000 in
theorem ggX5_delete_X4_learn : GoodIn wsX5_delete wsX4_learn := goodIn_r _ [71, 41, 43, 72, 73, 74, 22, 75, 42, 45, 7, 46, 76, 77, 78, 50, 79, 52, 66, 67, 80, 81, 82, 83, 24, 36, 84, 85, 86, 87, 88, 89, 90, 91, 92, 93, 94, 95, 96, 97, 98, 99, 100, 101, 102, 103, 104, 20, 21, 23, 105, 106, 107, 108, 109, 110, 111, 112, 113, 114, 115, 116, 117, 118, 119, 120, 121, 122, 123, 124, 125, 126, 127, 128, 129, 130, 131, 132, 133, 134, 135, 136, 137, 138, 139, 140, 141, 142, 143, 144, 145, 152, 153, 154, 155, 156, 157, 158, 159, 160, 161, 162, 163, 164, 165, 166, 167, 168, 169, 170, 171] (by decide +kernel) (by decide +kernel)
set_option maxRecDepth 20000 in
theorem gX5_delete_X4_learn : GoodIn wsX5_delete (wsV RX5 94 RX4 yX4_learn wsX4_learn) := goodIn_app (goodIn_of _ (by decide +kernel)) ggX5_delete_X4_learn
theorem dX5_delete_0 : decode cX5_delete 0 = .ok (.aload_n 0, 1) := by decide +kernel
theorem dX5_delete_1 : decode cX5_delete 1 = .ok (.iload_n 1, 1) := by decide +kernel
theorem dX5_delete_2 : decode cX5_delete 2 = .ok (.invokevirtual 71, 3) := by decide +kernel
theorem dX5_delete_5 : decode cX5_delete 5 = .ok (.astore_n 3, 1) := by decide +kernel
theorem dX5_delete_6 : decode cX5_delete 6 = .ok (.aload_n 3, 1) := by decide +kernel
theorem dX5_delete_7 : decode cX5_delete 7 = .ok (.iload_n 2, 1) := by decide +kernel
theorem dX5_delete_8 : decode cX5_delete 8 = .ok (.invokestatic 75, 3) := by decide +kernel
theorem dX5_delete_11 : decode cX5_delete 11 = .ok (.aload_n 0, 1) := by decide +kernel
theorem dX5_delete_12 : decode cX5_delete 12 = .ok (.invokevirtual 79, 3) := by decide +kernel
theorem dX5_delete_15 : decode cX5_delete 15 = .ok (.iload_n 2, 1) := by decide +kernel
theorem dX5_delete_16 : decode cX5_delete 16 = .ok (.invokestatic 108, 3) := by decide +kernel
theorem dX5_delete_19 : decode cX5_delete 19 = .ok (.aload_n 3, 1) := by decide +kernel
theorem dX5_delete_20 : decode cX5_delete 20 = .ok (.iload_n 2, 1) := by decide +kernel
theorem dX5_delete_21 : decode cX5_delete 21 = .ok (.invokevirtual 120, 3) := by decide +kernel
theorem dX5_delete_24 : decode cX5_delete 24 = .ok (.ifCond .eq 13, 3) := by decide +kernel
theorem dX5_delete_27 : decode cX5_delete 27 = .ok (.new 61, 3) := by decide +kernel
theorem dX5_delete_30 : decode cX5_delete 30 = .ok (.dup, 1) := by decide +kernel
theorem dX5_delete_31 : decode cX5_delete 31 = .ok (.ldc 124, 2) := by decide +kernel
theorem dX5_delete_33 : decode cX5_delete 33 = .ok (.invokespecial 65, 3) := by decide +kernel
theorem dX5_delete_36 : decode cX5_delete 36 = .ok (.athrow, 1) := by decide +kernel
theorem dX5_delete_37 : decode cX5_delete 37 = .ok (.aload_n 3, 1) := by decide +kernel
theorem dX5_delete_38 : decode cX5_delete 38 = .ok (.aload_n 0, 1) := by decide +kernel
theorem dX5_delete_39 : decode cX5_delete 39 = .ok (.getfield 19, 3) := by decide +kernel
theorem dX5_delete_42 : decode cX5_delete 42 = .ok (.iconst 3, 1) := by decide +kernel
theorem dX5_delete_43 : decode cX5_delete 43 = .ok (.aload_n 3, 1) := by decide +kernel
theorem dX5_delete_44 : decode cX5_delete 44 = .ok (.invokevirtual 86, 3) := by decide +kernel
theorem dX5_delete_47 : decode cX5_delete 47 = .ok (.iload_n 2, 1) := by decide +kernel
theorem dX5_delete_48 : decode cX5_delete 48 = .ok (.iconst (-1), 1) := by decide +kernel
theorem dX5_delete_49 : decode cX5_delete 49 = .ok (.iconst (-1), 1) := by decide +kernel
theorem dX5_delete_50 : decode cX5_delete 50 = .ok (.iconst (-1), 1) := by decide +kernel
theorem dX5_delete_51 : decode cX5_delete 51 = .ok (.invokevirtual 90, 3) := by decide +kernel
theorem dX5_delete_54 : decode cX5_delete 54 = .ok (.invokevirtual 94, 3) := by decide +kernel
theorem dX5_delete_57 : decode cX5_delete 57 = .ok (.aload_n 3, 1) := by decide +kernel
theorem dX5_delete_58 : decode cX5_delete 58 = .ok (.getfield 126, 3) := by decide +kernel
theorem dX5_delete_61 : decode cX5_delete 61 = .ok (.ireturn, 1) := by decide +kernel
set_option maxRecDepth 20000 in
theorem ggX5_carry_X5_checkIndex : GoodIn wsX5_carry wsX5_checkIndex := goodIn_ca (goodIn_r _ [5, 6, 7] (by decide +kernel) (by decide +kernel)) (goodIn_sub (fun _ h => List.mem_cons_of_mem _ (List.mem_append_right _ h)) (by decide +kernel))
set_option maxRecDepth 20000 in
theorem gX5_carry_X5_checkIndex : GoodIn wsX5_carry (va_wsS RX5 49 yX5_checkIndex wsX5_checkIndex) := goodIn_app (goodIn_of _ (by decide +kernel)) ggX5_carry_X5_checkIndex
set_option maxRecDepth 20000 in
theorem ggX5_carry_X5_treeOf : GoodIn wsX5_carry wsX5_treeOf := goodIn_ca (goodIn_r _ [11, 12, 13, 2, 3, 4, 5, 6, 7, 111, 112, 113, 114, 115, 116] (by decide +kernel) (by decide +kernel)) (goodIn_sub (fun _ h => List.mem_cons_of_mem _ (List.mem_append_right _ h)) (by decide +kernel))
set_option maxRecDepth 20000 in
theorem gX5_carry_X5_treeOf : GoodIn wsX5_carry (wsV RX5 71 RX5 yX5_treeOf wsX5_treeOf) := goodIn_app (goodIn_of _ (by decide +kernel)) ggX5_carry_X5_treeOf
set_option maxRecDepth 20000 in
theorem ggX5_carry_X4_knows : GoodIn wsX5_carry wsX4_knows := goodIn_r _ [18, 19, 20, 124, 125, 126, 127, 128, 129, 130, 131, 132, 133, 134] (by decide +kernel) (by decide +kernel)
set_option maxRecDepth 20000 in
theorem gX5_carry_X4_knows : GoodIn wsX5_carry (wsV RX5 129 RX4 yX4_knows wsX4_knows) := goodIn_app (goodIn_of _ (by decide +kernel)) ggX5_carry_X4_knows
set_option maxRecDepth 20000 in
theorem ggX5_carry_X4_learn : GoodIn wsX5_carry wsX4_learn := goodIn_r _ [24, 19, 20, 25, 26, 27, 17, 28, 29, 30, 4, 31, 32, 33, 34, 35, 36, 37, 38, 39, 40, 41, 42, 43, 44, 45, 46, 47, 48, 49, 50, 51, 52, 53, 54, 55, 56, 57, 58, 59, 60, 61, 62, 63, 64, 65, 66, 67, 68, 69, 70, 71, 72, 73, 74, 75, 76, 77, 78, 79, 80, 81, 82, 83, 84, 85, 86, 87, 88, 89, 90, 91, 92, 93, 94, 95, 96, 97, 98, 99, 100, 101, 102, 103, 104, 105, 106, 107, 108, 109, 110, 124, 125, 126, 127, 128, 129, 130, 131, 132, 133, 134, 117, 118, 119, 120, 121, 122, 123, 135, 136] (by decide +kernel) (by decide +kernel)
set_option maxRecDepth 20000 in
theorem gX5_carry_X4_learn : GoodIn wsX5_carry (wsV RX5 94 RX4 yX4_learn wsX4_learn) := goodIn_app (goodIn_of _ (by decide +kernel)) ggX5_carry_X4_learn
theorem dX5_carry_0 : decode cX5_carry 0 = .ok (.iload_n 1, 1) := by decide +kernel
theorem dX5_carry_1 : decode cX5_carry 1 = .ok (.aload_n 0, 1) := by decide +kernel
theorem dX5_carry_2 : decode cX5_carry 2 = .ok (.getfield 19, 3) := by decide +kernel
theorem dX5_carry_5 : decode cX5_carry 5 = .ok (.getfield 57, 3) := by decide +kernel
theorem dX5_carry_8 : decode cX5_carry 8 = .ok (.invokestatic 49, 3) := by decide +kernel
theorem dX5_carry_11 : decode cX5_carry 11 = .ok (.aload_n 0, 1) := by decide +kernel
theorem dX5_carry_12 : decode cX5_carry 12 = .ok (.iload_n 2, 1) := by decide +kernel
theorem dX5_carry_13 : decode cX5_carry 13 = .ok (.invokevirtual 71, 3) := by decide +kernel
theorem dX5_carry_16 : decode cX5_carry 16 = .ok (.astore_n 3, 1) := by decide +kernel
theorem dX5_carry_17 : decode cX5_carry 17 = .ok (.aload_n 3, 1) := by decide +kernel
theorem dX5_carry_18 : decode cX5_carry 18 = .ok (.iload_n 1, 1) := by decide +kernel
theorem dX5_carry_19 : decode cX5_carry 19 = .ok (.invokevirtual 129, 3) := by decide +kernel
theorem dX5_carry_22 : decode cX5_carry 22 = .ok (.ifCond .eq 5, 3) := by decide +kernel
theorem dX5_carry_25 : decode cX5_carry 25 = .ok (.iconst 0, 1) := by decide +kernel
theorem dX5_carry_26 : decode cX5_carry 26 = .ok (.ireturn, 1) := by decide +kernel
theorem dX5_carry_27 : decode cX5_carry 27 = .ok (.aload_n 3, 1) := by decide +kernel
theorem dX5_carry_28 : decode cX5_carry 28 = .ok (.iload_n 1, 1) := by decide +kernel
theorem dX5_carry_29 : decode cX5_carry 29 = .ok (.invokevirtual 94, 3) := by decide +kernel
theorem dX5_carry_32 : decode cX5_carry 32 = .ok (.iconst 1, 1) := by decide +kernel
theorem dX5_carry_33 : decode cX5_carry 33 = .ok (.ireturn, 1) := by decide +kernel
theorem dX5_changes_0 : decode cX5_changes 0 = .ok (.aload_n 0, 1) := by decide +kernel
theorem dX5_changes_1 : decode cX5_changes 1 = .ok (.getfield 19, 3) := by decide +kernel
theorem dX5_changes_4 : decode cX5_changes 4 = .ok (.getfield 57, 3) := by decide +kernel
theorem dX5_changes_7 : decode cX5_changes 7 = .ok (.ireturn, 1) := by decide +kernel
set_option maxRecDepth 20000 in
theorem ggX5_timeOf_X5_checkIndex : GoodIn wsX5_timeOf wsX5_checkIndex := goodIn_ca (goodIn_r _ [5, 6, 7] (by decide +kernel) (by decide +kernel)) (goodIn_sub (fun _ h => List.mem_cons_of_mem _ (List.mem_append_right _ h)) (by decide +kernel))
set_option maxRecDepth 20000 in
theorem gX5_timeOf_X5_checkIndex : GoodIn wsX5_timeOf (va_wsS RX5 49 yX5_checkIndex wsX5_checkIndex) := goodIn_app (goodIn_of _ (by decide +kernel)) ggX5_timeOf_X5_checkIndex
set_option maxRecDepth 20000 in
theorem ggX5_timeOf_X2_timeAt : GoodIn wsX5_timeOf wsX2_timeAt := goodIn_r _ [12, 13, 14, 4, 15, 22, 23, 24, 25, 26, 27, 28] (by decide +kernel) (by decide +kernel)
set_option maxRecDepth 20000 in
theorem gX5_timeOf_X2_timeAt : GoodIn wsX5_timeOf (wsV RX5 132 RX2 yX2_timeAt wsX2_timeAt) := goodIn_app (goodIn_of _ (by decide +kernel)) ggX5_timeOf_X2_timeAt
theorem dX5_timeOf_0 : decode cX5_timeOf 0 = .ok (.iload_n 1, 1) := by decide +kernel
theorem dX5_timeOf_1 : decode cX5_timeOf 1 = .ok (.aload_n 0, 1) := by decide +kernel
theorem dX5_timeOf_2 : decode cX5_timeOf 2 = .ok (.getfield 19, 3) := by decide +kernel
theorem dX5_timeOf_5 : decode cX5_timeOf 5 = .ok (.getfield 57, 3) := by decide +kernel
theorem dX5_timeOf_8 : decode cX5_timeOf 8 = .ok (.invokestatic 49, 3) := by decide +kernel
theorem dX5_timeOf_11 : decode cX5_timeOf 11 = .ok (.aload_n 0, 1) := by decide +kernel
theorem dX5_timeOf_12 : decode cX5_timeOf 12 = .ok (.getfield 19, 3) := by decide +kernel
theorem dX5_timeOf_15 : decode cX5_timeOf 15 = .ok (.iload_n 1, 1) := by decide +kernel
theorem dX5_timeOf_16 : decode cX5_timeOf 16 = .ok (.invokevirtual 132, 3) := by decide +kernel
theorem dX5_timeOf_19 : decode cX5_timeOf 19 = .ok (.ireturn, 1) := by decide +kernel
set_option maxRecDepth 20000 in
theorem ggX5_entries_X5_treeOf : GoodIn wsX5_entries wsX5_treeOf := goodIn_ca (goodIn_r _ [5, 6, 7, 8, 9, 4, 10, 11, 12, 24, 25, 26, 27, 28, 29] (by decide +kernel) (by decide +kernel)) (goodIn_sub (fun _ h => List.mem_cons_of_mem _ (List.mem_append_right _ h)) (by decide +kernel))
set_option maxRecDepth 20000 in
theorem gX5_entries_X5_treeOf : GoodIn wsX5_entries (wsV RX5 71 RX5 yX5_treeOf wsX5_treeOf) := goodIn_app (goodIn_of _ (by decide +kernel)) ggX5_entries_X5_treeOf
theorem dX5_entries_0 : decode cX5_entries 0 = .ok (.aload_n 0, 1) := by decide +kernel
theorem dX5_entries_1 : decode cX5_entries 1 = .ok (.iload_n 1, 1) := by decide +kernel
theorem dX5_entries_2 : decode cX5_entries 2 = .ok (.invokevirtual 71, 3) := by decide +kernel
theorem dX5_entries_5 : decode cX5_entries 5 = .ok (.getfield 126, 3) := by decide +kernel
theorem dX5_entries_8 : decode cX5_entries 8 = .ok (.ireturn, 1) := by decide +kernel
set_option maxRecDepth 20000 in
theorem ggX5_isThere_X5_treeOf : GoodIn wsX5_isThere wsX5_treeOf := goodIn_ca (goodIn_r _ [5, 6, 7, 8, 9, 4, 10, 11, 12, 19, 20, 21, 22, 23, 24] (by decide +kernel) (by decide +kernel)) (goodIn_sub (fun _ h => List.mem_cons_of_mem _ (List.mem_append_right _ h)) (by decide +kernel))
set_option maxRecDepth 20000 in
theorem gX5_isThere_X5_treeOf : GoodIn wsX5_isThere (wsV RX5 71 RX5 yX5_treeOf wsX5_treeOf) := goodIn_app (goodIn_of _ (by decide +kernel)) ggX5_isThere_X5_treeOf
set_option maxRecDepth 20000 in
theorem ggX5_isThere_X4_has : GoodIn wsX5_isThere wsX4_has := goodIn_r _ [17, 18, 25, 26, 27, 28, 29, 30, 31, 32, 33, 34, 35] (by decide +kernel) (by decide +kernel)
set_option maxRecDepth 20000 in
theorem gX5_isThere_X4_has : GoodIn wsX5_isThere (wsV RX5 135 RX4 yX4_has wsX4_has) := goodIn_app (goodIn_of _ (by decide +kernel)) ggX5_isThere_X4_has
theorem dX5_isThere_0 : decode cX5_isThere 0 = .ok (.aload_n 0, 1) := by decide +kernel
theorem dX5_isThere_1 : decode cX5_isThere 1 = .ok (.iload_n 1, 1) := by decide +kernel
theorem dX5_isThere_2 : decode cX5_isThere 2 = .ok (.invokevirtual 71, 3) := by decide +kernel
theorem dX5_isThere_5 : decode cX5_isThere 5 = .ok (.iload_n 2, 1) := by decide +kernel
theorem dX5_isThere_6 : decode cX5_isThere 6 = .ok (.invokevirtual 135, 3) := by decide +kernel
theorem dX5_isThere_9 : decode cX5_isThere 9 = .ok (.ireturn, 1) := by decide +kernel
set_option maxRecDepth 20000 in
theorem ggX5_parentOf_X5_treeOf : GoodIn wsX5_parentOf wsX5_treeOf := goodIn_ca (goodIn_r _ [5, 6, 7, 8, 9, 4, 10, 11, 12, 29, 30, 31, 32, 33, 34] (by decide +kernel) (by decide +kernel)) (goodIn_sub (fun _ h => List.mem_cons_of_mem _ (List.mem_append_right _ h)) (by decide +kernel))
set_option maxRecDepth 20000 in
theorem gX5_parentOf_X5_treeOf : GoodIn wsX5_parentOf (wsV RX5 71 RX5 yX5_treeOf wsX5_treeOf) := goodIn_app (goodIn_of _ (by decide +kernel)) ggX5_parentOf_X5_treeOf
set_option maxRecDepth 20000 in
theorem ggX5_parentOf_X5_checkEntry : GoodIn wsX5_parentOf wsX5_checkEntry := goodIn_ca (goodIn_r _ [15, 11, 12, 16, 17, 18, 19, 20, 21, 35, 36, 37, 38, 39, 40, 41, 42, 43, 44, 45] (by decide +kernel) (by decide +kernel)) (goodIn_sub (fun _ h => List.mem_cons_of_mem _ (List.mem_append_right _ h)) (by decide +kernel))
set_option maxRecDepth 20000 in
theorem gX5_parentOf_X5_checkEntry : GoodIn wsX5_parentOf (va_wsS RX5 75 yX5_checkEntry wsX5_checkEntry) := goodIn_app (goodIn_of _ (by decide +kernel)) ggX5_parentOf_X5_checkEntry
set_option maxRecDepth 20000 in
theorem ggX5_parentOf_X4_parentAt : GoodIn wsX5_parentOf wsX4_parentAt := goodIn_r _ [25, 26, 27, 4, 28, 35, 36, 37, 38, 39, 40, 41, 42, 43, 44, 45] (by decide +kernel) (by decide +kernel)
set_option maxRecDepth 20000 in
theorem gX5_parentOf_X4_parentAt : GoodIn wsX5_parentOf (wsV RX5 116 RX4 yX4_parentAt wsX4_parentAt) := goodIn_app (goodIn_of _ (by decide +kernel)) ggX5_parentOf_X4_parentAt
theorem dX5_parentOf_0 : decode cX5_parentOf 0 = .ok (.aload_n 0, 1) := by decide +kernel
theorem dX5_parentOf_1 : decode cX5_parentOf 1 = .ok (.iload_n 1, 1) := by decide +kernel
theorem dX5_parentOf_2 : decode cX5_parentOf 2 = .ok (.invokevirtual 71, 3) := by decide +kernel
theorem dX5_parentOf_5 : decode cX5_parentOf 5 = .ok (.astore_n 3, 1) := by decide +kernel
theorem dX5_parentOf_6 : decode cX5_parentOf 6 = .ok (.aload_n 3, 1) := by decide +kernel
theorem dX5_parentOf_7 : decode cX5_parentOf 7 = .ok (.iload_n 2, 1) := by decide +kernel
theorem dX5_parentOf_8 : decode cX5_parentOf 8 = .ok (.invokestatic 75, 3) := by decide +kernel
theorem dX5_parentOf_11 : decode cX5_parentOf 11 = .ok (.aload_n 3, 1) := by decide +kernel
theorem dX5_parentOf_12 : decode cX5_parentOf 12 = .ok (.iload_n 2, 1) := by decide +kernel
theorem dX5_parentOf_13 : decode cX5_parentOf 13 = .ok (.invokevirtual 116, 3) := by decide +kernel
theorem dX5_parentOf_16 : decode cX5_parentOf 16 = .ok (.ireturn, 1) := by decide +kernel
set_option maxRecDepth 20000 in
theorem ggX5_labelOf_X5_treeOf : GoodIn wsX5_labelOf wsX5_treeOf := goodIn_ca (goodIn_r _ [5, 6, 7, 8, 9, 4, 10, 11, 12, 29, 30, 31, 32, 33, 34] (by decide +kernel) (by decide +kernel)) (goodIn_sub (fun _ h => List.mem_cons_of_mem _ (List.mem_append_right _ h)) (by decide +kernel))
set_option maxRecDepth 20000 in
theorem gX5_labelOf_X5_treeOf : GoodIn wsX5_labelOf (wsV RX5 71 RX5 yX5_treeOf wsX5_treeOf) := goodIn_app (goodIn_of _ (by decide +kernel)) ggX5_labelOf_X5_treeOf
set_option maxRecDepth 20000 in
theorem ggX5_labelOf_X5_checkEntry : GoodIn wsX5_labelOf wsX5_checkEntry := goodIn_ca (goodIn_r _ [15, 11, 12, 16, 17, 18, 19, 20, 21, 35, 36, 37, 38, 39, 40, 41, 42, 43, 44, 45] (by decide +kernel) (by decide +kernel)) (goodIn_sub (fun _ h => List.mem_cons_of_mem _ (List.mem_append_right _ h)) (by decide +kernel))
set_option maxRecDepth 20000 in
theorem gX5_labelOf_X5_checkEntry : GoodIn wsX5_labelOf (va_wsS RX5 75 yX5_checkEntry wsX5_checkEntry) := goodIn_app (goodIn_of _ (by decide +kernel)) ggX5_labelOf_X5_checkEntry
set_option maxRecDepth 20000 in
theorem ggX5_labelOf_X4_labelAt : GoodIn wsX5_labelOf wsX4_labelAt := goodIn_r _ [25, 26, 27, 4, 28, 35, 36, 37, 38, 39, 40, 41, 42, 43, 44, 45] (by decide +kernel) (by decide +kernel)
set_option maxRecDepth 20000 in
theorem gX5_labelOf_X4_labelAt : GoodIn wsX5_labelOf (wsV RX5 138 RX4 yX4_labelAt wsX4_labelAt) := goodIn_app (goodIn_of _ (by decide +kernel)) ggX5_labelOf_X4_labelAt
theorem dX5_labelOf_0 : decode cX5_labelOf 0 = .ok (.aload_n 0, 1) := by decide +kernel
theorem dX5_labelOf_1 : decode cX5_labelOf 1 = .ok (.iload_n 1, 1) := by decide +kernel
theorem dX5_labelOf_2 : decode cX5_labelOf 2 = .ok (.invokevirtual 71, 3) := by decide +kernel
theorem dX5_labelOf_5 : decode cX5_labelOf 5 = .ok (.astore_n 3, 1) := by decide +kernel
theorem dX5_labelOf_6 : decode cX5_labelOf 6 = .ok (.aload_n 3, 1) := by decide +kernel
theorem dX5_labelOf_7 : decode cX5_labelOf 7 = .ok (.iload_n 2, 1) := by decide +kernel
theorem dX5_labelOf_8 : decode cX5_labelOf 8 = .ok (.invokestatic 75, 3) := by decide +kernel
theorem dX5_labelOf_11 : decode cX5_labelOf 11 = .ok (.aload_n 3, 1) := by decide +kernel
theorem dX5_labelOf_12 : decode cX5_labelOf 12 = .ok (.iload_n 2, 1) := by decide +kernel
theorem dX5_labelOf_13 : decode cX5_labelOf 13 = .ok (.invokevirtual 138, 3) := by decide +kernel
theorem dX5_labelOf_16 : decode cX5_labelOf 16 = .ok (.ireturn, 1) := by decide +kernel
set_option maxRecDepth 20000 in
theorem ggX5_value_X5_treeOf : GoodIn wsX5_value wsX5_treeOf := goodIn_ca (goodIn_r _ [5, 6, 7, 8, 9, 4, 10, 11, 12, 29, 30, 31, 32, 33, 34] (by decide +kernel) (by decide +kernel)) (goodIn_sub (fun _ h => List.mem_cons_of_mem _ (List.mem_append_right _ h)) (by decide +kernel))
set_option maxRecDepth 20000 in
theorem gX5_value_X5_treeOf : GoodIn wsX5_value (wsV RX5 71 RX5 yX5_treeOf wsX5_treeOf) := goodIn_app (goodIn_of _ (by decide +kernel)) ggX5_value_X5_treeOf
set_option maxRecDepth 20000 in
theorem ggX5_value_X5_checkEntry : GoodIn wsX5_value wsX5_checkEntry := goodIn_ca (goodIn_r _ [15, 11, 12, 16, 17, 18, 19, 20, 21, 35, 36, 37, 38, 39, 40, 41, 42, 43, 44, 45] (by decide +kernel) (by decide +kernel)) (goodIn_sub (fun _ h => List.mem_cons_of_mem _ (List.mem_append_right _ h)) (by decide +kernel))
set_option maxRecDepth 20000 in
theorem gX5_value_X5_checkEntry : GoodIn wsX5_value (va_wsS RX5 75 yX5_checkEntry wsX5_checkEntry) := goodIn_app (goodIn_of _ (by decide +kernel)) ggX5_value_X5_checkEntry
set_option maxRecDepth 20000 in
theorem ggX5_value_X5_checkIndex : GoodIn wsX5_value wsX5_checkIndex := goodIn_ca (goodIn_r _ [10, 11, 12] (by decide +kernel) (by decide +kernel)) (goodIn_sub (fun _ h => List.mem_cons_of_mem _ (List.mem_append_right _ h)) (by decide +kernel))
set_option maxRecDepth 20000 in
theorem gX5_value_X5_checkIndex : GoodIn wsX5_value (va_wsS RX5 49 yX5_checkIndex wsX5_checkIndex) := goodIn_app (goodIn_of _ (by decide +kernel)) ggX5_value_X5_checkIndex
set_option maxRecDepth 20000 in
theorem ggX5_value_X4_valueAt : GoodIn wsX5_value wsX4_valueAt := goodIn_r _ [25, 26, 27, 4, 28, 35, 36, 37, 38, 39, 40, 41, 42, 43, 44, 45] (by decide +kernel) (by decide +kernel)
set_option maxRecDepth 20000 in
theorem gX5_value_X4_valueAt : GoodIn wsX5_value (wsV RX5 104 RX4 yX4_valueAt wsX4_valueAt) := goodIn_app (goodIn_of _ (by decide +kernel)) ggX5_value_X4_valueAt
theorem dX5_value_0 : decode cX5_value 0 = .ok (.aload_n 0, 1) := by decide +kernel
theorem dX5_value_1 : decode cX5_value 1 = .ok (.iload_n 1, 1) := by decide +kernel
theorem dX5_value_2 : decode cX5_value 2 = .ok (.invokevirtual 71, 3) := by decide +kernel
theorem dX5_value_5 : decode cX5_value 5 = .ok (.astore 4, 2) := by decide +kernel
theorem dX5_value_7 : decode cX5_value 7 = .ok (.aload 4, 2) := by decide +kernel
theorem dX5_value_9 : decode cX5_value 9 = .ok (.iload_n 2, 1) := by decide +kernel
theorem dX5_value_10 : decode cX5_value 10 = .ok (.invokestatic 75, 3) := by decide +kernel
theorem dX5_value_13 : decode cX5_value 13 = .ok (.iload_n 3, 1) := by decide +kernel
theorem dX5_value_14 : decode cX5_value 14 = .ok (.iconst 4, 1) := by decide +kernel
theorem dX5_value_15 : decode cX5_value 15 = .ok (.invokestatic 49, 3) := by decide +kernel
theorem dX5_value_18 : decode cX5_value 18 = .ok (.aload 4, 2) := by decide +kernel
theorem dX5_value_20 : decode cX5_value 20 = .ok (.iload_n 2, 1) := by decide +kernel
theorem dX5_value_21 : decode cX5_value 21 = .ok (.iload_n 3, 1) := by decide +kernel
theorem dX5_value_22 : decode cX5_value 22 = .ok (.invokevirtual 104, 3) := by decide +kernel
theorem dX5_value_25 : decode cX5_value 25 = .ok (.ireturn, 1) := by decide +kernel
set_option maxRecDepth 20000 in
theorem ggX5_isWhole_X5_treeOf : GoodIn wsX5_isWhole wsX5_treeOf := goodIn_ca (goodIn_r _ [5, 6, 7, 8, 9, 4, 10, 11, 12, 44, 45, 46, 47, 48, 49] (by decide +kernel) (by decide +kernel)) (goodIn_sub (fun _ h => List.mem_cons_of_mem _ (List.mem_append_right _ h)) (by decide +kernel))
set_option maxRecDepth 20000 in
theorem gX5_isWhole_X5_treeOf : GoodIn wsX5_isWhole (wsV RX5 71 RX5 yX5_treeOf wsX5_treeOf) := goodIn_app (goodIn_of _ (by decide +kernel)) ggX5_isWhole_X5_treeOf
set_option maxRecDepth 20000 in
theorem ggX5_isWhole_X5_checkEntry : GoodIn wsX5_isWhole wsX5_checkEntry := goodIn_ca (goodIn_r _ [15, 11, 12, 16, 17, 18, 19, 20, 21, 50, 51, 52, 53, 54, 55, 56, 57, 58, 59, 60] (by decide +kernel) (by decide +kernel)) (goodIn_sub (fun _ h => List.mem_cons_of_mem _ (List.mem_append_right _ h)) (by decide +kernel))
set_option maxRecDepth 20000 in
theorem gX5_isWhole_X5_checkEntry : GoodIn wsX5_isWhole (va_wsS RX5 75 yX5_checkEntry wsX5_checkEntry) := goodIn_app (goodIn_of _ (by decide +kernel)) ggX5_isWhole_X5_checkEntry
set_option maxRecDepth 20000 in
theorem ggX5_isWhole_X4_hasAllNeeded : GoodIn wsX5_isWhole wsX4_hasAllNeeded := goodIn_r _ [25, 26, 27, 28, 4, 29, 30, 31, 32, 33, 34, 35, 36, 37, 38, 39, 40, 41, 19, 42, 43, 50, 51, 52, 53, 54, 55, 56, 57, 58, 59, 60, 61, 62] (by decide +kernel) (by decide +kernel)
set_option maxRecDepth 20000 in
theorem gX5_isWhole_X4_hasAllNeeded : GoodIn wsX5_isWhole (wsV RX5 141 RX4 yX4_hasAllNeeded wsX4_hasAllNeeded) := goodIn_app (goodIn_of _ (by decide +kernel)) ggX5_isWhole_X4_hasAllNeeded
theorem dX5_isWhole_0 : decode cX5_isWhole 0 = .ok (.aload_n 0, 1) := by decide +kernel
theorem dX5_isWhole_1 : decode cX5_isWhole 1 = .ok (.iload_n 1, 1) := by decide +kernel
theorem dX5_isWhole_2 : decode cX5_isWhole 2 = .ok (.invokevirtual 71, 3) := by decide +kernel
theorem dX5_isWhole_5 : decode cX5_isWhole 5 = .ok (.astore_n 3, 1) := by decide +kernel
theorem dX5_isWhole_6 : decode cX5_isWhole 6 = .ok (.aload_n 3, 1) := by decide +kernel
theorem dX5_isWhole_7 : decode cX5_isWhole 7 = .ok (.iload_n 2, 1) := by decide +kernel
theorem dX5_isWhole_8 : decode cX5_isWhole 8 = .ok (.invokestatic 75, 3) := by decide +kernel
theorem dX5_isWhole_11 : decode cX5_isWhole 11 = .ok (.aload_n 3, 1) := by decide +kernel
theorem dX5_isWhole_12 : decode cX5_isWhole 12 = .ok (.iload_n 2, 1) := by decide +kernel
theorem dX5_isWhole_13 : decode cX5_isWhole 13 = .ok (.invokevirtual 141, 3) := by decide +kernel
theorem dX5_isWhole_16 : decode cX5_isWhole 16 = .ok (.ireturn, 1) := by decide +kernel
set_option maxRecDepth 20000 in
theorem ggX5_find_X5_treeOf : GoodIn wsX5_find wsX5_treeOf := goodIn_ca (goodIn_r _ [5, 6, 7, 8, 9, 4, 10, 11, 12, 36, 37, 38, 39, 40, 41] (by decide +kernel) (by decide +kernel)) (goodIn_sub (fun _ h => List.mem_cons_of_mem _ (List.mem_append_left _ (List.mem_append_right _ h))) (by decide +kernel))
set_option maxRecDepth 20000 in
theorem gX5_find_X5_treeOf : GoodIn wsX5_find (wsV RX5 71 RX5 yX5_treeOf wsX5_treeOf) := goodIn_app (goodIn_of _ (by decide +kernel)) ggX5_find_X5_treeOf
set_option maxRecDepth 20000 in
theorem ggX5_find_X5_checkEntry : GoodIn wsX5_find wsX5_checkEntry := goodIn_ca (goodIn_r _ [15, 11, 12, 16, 17, 18, 19, 20, 21, 42, 43, 44, 45, 46, 47, 48, 49, 50, 51, 52] (by decide +kernel) (by decide +kernel)) (goodIn_sub (fun _ h => List.mem_cons_of_mem _ (List.mem_append_left _ (List.mem_append_right _ h))) (by decide +kernel))
set_option maxRecDepth 20000 in
theorem gX5_find_X5_checkEntry : GoodIn wsX5_find (va_wsS RX5 75 yX5_checkEntry wsX5_checkEntry) := goodIn_app (goodIn_of _ (by decide +kernel)) ggX5_find_X5_checkEntry
set_option maxRecDepth 20000 in
theorem ggX5_find_X5_checkArgument : GoodIn wsX5_find wsX5_checkArgument := goodIn_ca (goodIn_r _ [24, 25, 26] (by decide +kernel) (by decide +kernel)) (goodIn_sub (fun _ h => List.mem_cons_of_mem _ (List.mem_append_right _ h)) (by decide +kernel))
set_option maxRecDepth 20000 in
theorem gX5_find_X5_checkArgument : GoodIn wsX5_find (va_wsS RX5 53 yX5_checkArgument wsX5_checkArgument) := goodIn_app (goodIn_of _ (by decide +kernel)) ggX5_find_X5_checkArgument
set_option maxRecDepth 20000 in
theorem ggX5_find_X4_childWithLabelLike : GoodIn wsX5_find wsX4_childWithLabelLike := goodIn_r _ [30, 31, 32, 33, 34, 19, 35, 42, 43, 44, 45, 46, 47, 48, 49, 50, 51, 52] (by decide +kernel) (by decide +kernel)
set_option maxRecDepth 20000 in
theorem gX5_find_X4_childWithLabelLike : GoodIn wsX5_find (wsV RX5 144 RX4 yX4_childWithLabelLike wsX4_childWithLabelLike) := goodIn_app (goodIn_of _ (by decide +kernel)) ggX5_find_X4_childWithLabelLike
theorem dX5_find_0 : decode cX5_find 0 = .ok (.aload_n 0, 1) := by decide +kernel
theorem dX5_find_1 : decode cX5_find 1 = .ok (.iload_n 1, 1) := by decide +kernel
theorem dX5_find_2 : decode cX5_find 2 = .ok (.invokevirtual 71, 3) := by decide +kernel
theorem dX5_find_5 : decode cX5_find 5 = .ok (.astore 4, 2) := by decide +kernel
theorem dX5_find_7 : decode cX5_find 7 = .ok (.aload 4, 2) := by decide +kernel
theorem dX5_find_9 : decode cX5_find 9 = .ok (.iload_n 2, 1) := by decide +kernel
theorem dX5_find_10 : decode cX5_find 10 = .ok (.invokestatic 75, 3) := by decide +kernel
theorem dX5_find_13 : decode cX5_find 13 = .ok (.iload_n 3, 1) := by decide +kernel
theorem dX5_find_14 : decode cX5_find 14 = .ok (.iconst 0, 1) := by decide +kernel
theorem dX5_find_15 : decode cX5_find 15 = .ok (.bipush 99, 2) := by decide +kernel
theorem dX5_find_17 : decode cX5_find 17 = .ok (.invokestatic 53, 3) := by decide +kernel
theorem dX5_find_20 : decode cX5_find 20 = .ok (.aload 4, 2) := by decide +kernel
theorem dX5_find_22 : decode cX5_find 22 = .ok (.iload_n 2, 1) := by decide +kernel
theorem dX5_find_23 : decode cX5_find 23 = .ok (.iload_n 3, 1) := by decide +kernel
theorem dX5_find_24 : decode cX5_find 24 = .ok (.iconst (-1), 1) := by decide +kernel
theorem dX5_find_25 : decode cX5_find 25 = .ok (.invokevirtual 144, 3) := by decide +kernel
theorem dX5_find_28 : decode cX5_find 28 = .ok (.ireturn, 1) := by decide +kernel
set_option maxRecDepth 20000 in
theorem ggX5_areAlike_X4_isSameAs : GoodIn wsX5_areAlike wsX4_isSameAs := goodIn_r _ [7, 8, 9, 10, 11, 6, 12, 13, 14, 15, 16, 17, 18, 19, 20, 21, 22, 23, 24, 25, 26, 27, 28, 29, 30, 31, 38, 39, 40, 41, 42, 43, 44, 45, 46, 47, 48] (by decide +kernel) (by decide +kernel)
set_option maxRecDepth 20000 in
theorem gX5_areAlike_X4_isSameAs : GoodIn wsX5_areAlike (wsV RX5 148 RX4 yX4_isSameAs wsX4_isSameAs) := goodIn_app (goodIn_of _ (by decide +kernel)) ggX5_areAlike_X4_isSameAs
theorem dX5_areAlike_0 : decode cX5_areAlike 0 = .ok (.aload_n 0, 1) := by decide +kernel
theorem dX5_areAlike_1 : decode cX5_areAlike 1 = .ok (.getfield 28, 3) := by decide +kernel
theorem dX5_areAlike_4 : decode cX5_areAlike 4 = .ok (.aload_n 0, 1) := by decide +kernel
theorem dX5_areAlike_5 : decode cX5_areAlike 5 = .ok (.getfield 32, 3) := by decide +kernel
theorem dX5_areAlike_8 : decode cX5_areAlike 8 = .ok (.invokevirtual 148, 3) := by decide +kernel
theorem dX5_areAlike_11 : decode cX5_areAlike 11 = .ok (.ireturn, 1) := by decide +kernel
set_option maxRecDepth 20000 in
theorem ggX5_setRight_X5_checkIndex : GoodIn wsX5_setRight wsX5_checkIndex := goodIn_ca (goodIn_r _ [5, 6, 7] (by decide +kernel) (by decide +kernel)) (goodIn_sub (fun _ h => List.mem_cons_of_mem _ (List.mem_append_left _ (List.mem_append_right _ h))) (by decide +kernel))
set_option maxRecDepth 20000 in
theorem gX5_setRight_X5_checkIndex : GoodIn wsX5_setRight (va_wsS RX5 49 yX5_checkIndex wsX5_checkIndex) := goodIn_app (goodIn_of _ (by decide +kernel)) ggX5_setRight_X5_checkIndex
set_option maxRecDepth 20000 in
theorem ggX5_setRight_X5_checkArgument : GoodIn wsX5_setRight wsX5_checkArgument := goodIn_ca (goodIn_r _ [10, 11, 12] (by decide +kernel) (by decide +kernel)) (goodIn_sub (fun _ h => List.mem_cons_of_mem _ (List.mem_append_right _ h)) (by decide +kernel))
set_option maxRecDepth 20000 in
theorem gX5_setRight_X5_checkArgument : GoodIn wsX5_setRight (va_wsS RX5 53 yX5_checkArgument wsX5_checkArgument) := goodIn_app (goodIn_of _ (by decide +kernel)) ggX5_setRight_X5_checkArgument
set_option maxRecDepth 20000 in
theorem ggX5_setRight_X3_putRight : GoodIn wsX5_setRight wsX3_putRight := goodIn_r _ [17, 18, 19, 4, 20, 27, 28] (by decide +kernel) (by decide +kernel)
set_option maxRecDepth 20000 in
theorem gX5_setRight_X3_putRight : GoodIn wsX5_setRight (wsV RX5 152 RX3 yX3_putRight wsX3_putRight) := goodIn_app (goodIn_of _ (by decide +kernel)) ggX5_setRight_X3_putRight
theorem dX5_setRight_0 : decode cX5_setRight 0 = .ok (.iload_n 1, 1) := by decide +kernel
theorem dX5_setRight_1 : decode cX5_setRight 1 = .ok (.iconst 3, 1) := by decide +kernel
theorem dX5_setRight_2 : decode cX5_setRight 2 = .ok (.invokestatic 49, 3) := by decide +kernel
theorem dX5_setRight_5 : decode cX5_setRight 5 = .ok (.iload_n 2, 1) := by decide +kernel
theorem dX5_setRight_6 : decode cX5_setRight 6 = .ok (.bipush 42, 2) := by decide +kernel
theorem dX5_setRight_8 : decode cX5_setRight 8 = .ok (.invokestatic 49, 3) := by decide +kernel
theorem dX5_setRight_11 : decode cX5_setRight 11 = .ok (.iload_n 3, 1) := by decide +kernel
theorem dX5_setRight_12 : decode cX5_setRight 12 = .ok (.iconst (-1), 1) := by decide +kernel
theorem dX5_setRight_13 : decode cX5_setRight 13 = .ok (.iconst 1, 1) := by decide +kernel
theorem dX5_setRight_14 : decode cX5_setRight 14 = .ok (.invokestatic 53, 3) := by decide +kernel
theorem dX5_setRight_17 : decode cX5_setRight 17 = .ok (.aload_n 0, 1) := by decide +kernel
theorem dX5_setRight_18 : decode cX5_setRight 18 = .ok (.getfield 38, 3) := by decide +kernel
theorem dX5_setRight_21 : decode cX5_setRight 21 = .ok (.iload_n 1, 1) := by decide +kernel
theorem dX5_setRight_22 : decode cX5_setRight 22 = .ok (.iload_n 2, 1) := by decide +kernel
theorem dX5_setRight_23 : decode cX5_setRight 23 = .ok (.iload_n 3, 1) := by decide +kernel
theorem dX5_setRight_24 : decode cX5_setRight 24 = .ok (.invokevirtual 152, 3) := by decide +kernel
theorem dX5_setRight_27 : decode cX5_setRight 27 = .ok (.return_, 1) := by decide +kernel
set_option maxRecDepth 20000 in
theorem ggX5_refer_X5_checkIndex : GoodIn wsX5_refer wsX5_checkIndex := goodIn_ca (goodIn_r _ [5, 6, 7] (by decide +kernel) (by decide +kernel)) (goodIn_sub (fun _ h => List.mem_cons_of_mem _ (List.mem_append_right _ h)) (by decide +kernel))
set_option maxRecDepth 20000 in
theorem gX5_refer_X5_checkIndex : GoodIn wsX5_refer (va_wsS RX5 49 yX5_checkIndex wsX5_checkIndex) := goodIn_app (goodIn_of _ (by decide +kernel)) ggX5_refer_X5_checkIndex
set_option maxRecDepth 20000 in
theorem ggX5_refer_X3_putReferral : GoodIn wsX5_refer wsX3_putReferral := goodIn_r _ [12, 13, 20, 21] (by decide +kernel) (by decide +kernel)
set_option maxRecDepth 20000 in
theorem gX5_refer_X3_putReferral : GoodIn wsX5_refer (wsV RX5 155 RX3 yX3_putReferral wsX3_putReferral) := goodIn_app (goodIn_of _ (by decide +kernel)) ggX5_refer_X3_putReferral
theorem dX5_refer_0 : decode cX5_refer 0 = .ok (.iload_n 1, 1) := by decide +kernel
theorem dX5_refer_1 : decode cX5_refer 1 = .ok (.bipush 42, 2) := by decide +kernel
theorem dX5_refer_3 : decode cX5_refer 3 = .ok (.invokestatic 49, 3) := by decide +kernel
theorem dX5_refer_6 : decode cX5_refer 6 = .ok (.aload_n 0, 1) := by decide +kernel
theorem dX5_refer_7 : decode cX5_refer 7 = .ok (.getfield 38, 3) := by decide +kernel
theorem dX5_refer_10 : decode cX5_refer 10 = .ok (.iload_n 1, 1) := by decide +kernel
theorem dX5_refer_11 : decode cX5_refer 11 = .ok (.iload_n 2, 1) := by decide +kernel
theorem dX5_refer_12 : decode cX5_refer 12 = .ok (.invokevirtual 155, 3) := by decide +kernel
theorem dX5_refer_15 : decode cX5_refer 15 = .ok (.return_, 1) := by decide +kernel
set_option maxRecDepth 20000 in
theorem ggX5_test_X5_checkArgument : GoodIn wsX5_test wsX5_checkArgument := goodIn_ca (goodIn_r _ [5, 6, 7] (by decide +kernel) (by decide +kernel)) (goodIn_sub (fun _ h => List.mem_cons_of_mem _ (List.mem_append_left _ (List.mem_append_right _ h))) (by decide +kernel))
set_option maxRecDepth 20000 in
theorem gX5_test_X5_checkArgument : GoodIn wsX5_test (va_wsS RX5 53 yX5_checkArgument wsX5_checkArgument) := goodIn_app (goodIn_of _ (by decide +kernel)) ggX5_test_X5_checkArgument
set_option maxRecDepth 20000 in
theorem ggX5_test_X5_checkRoomForFilter : GoodIn wsX5_test wsX5_checkRoomForFilter := goodIn_ca (goodIn_r _ [11, 12, 13, 1, 25, 26, 27, 28, 29, 30, 31, 32, 33, 34, 35] (by decide +kernel) (by decide +kernel)) (goodIn_sub (fun _ h => List.mem_cons_of_mem _ (List.mem_append_right _ h)) (by decide +kernel))
set_option maxRecDepth 20000 in
theorem gX5_test_X5_checkRoomForFilter : GoodIn wsX5_test (wsV RX5 159 RX5 yX5_checkRoomForFilter wsX5_checkRoomForFilter) := goodIn_app (goodIn_of _ (by decide +kernel)) ggX5_test_X5_checkRoomForFilter
set_option maxRecDepth 20000 in
theorem ggX5_test_X1_append : GoodIn wsX5_test wsX1_append := goodIn_r _ [18, 19, 20, 21, 22, 23, 4, 24, 31, 32, 33, 34, 35] (by decide +kernel) (by decide +kernel)
set_option maxRecDepth 20000 in
theorem gX5_test_X1_append : GoodIn wsX5_test (wsV RX5 162 RX1 yX1_append wsX1_append) := goodIn_app (goodIn_of _ (by decide +kernel)) ggX5_test_X1_append
theorem dX5_test_0 : decode cX5_test 0 = .ok (.iload_n 1, 1) := by decide +kernel
theorem dX5_test_1 : decode cX5_test 1 = .ok (.iconst 0, 1) := by decide +kernel
theorem dX5_test_2 : decode cX5_test 2 = .ok (.iconst 2, 1) := by decide +kernel
theorem dX5_test_3 : decode cX5_test 3 = .ok (.invokestatic 53, 3) := by decide +kernel
theorem dX5_test_6 : decode cX5_test 6 = .ok (.iload_n 2, 1) := by decide +kernel
theorem dX5_test_7 : decode cX5_test 7 = .ok (.iconst 0, 1) := by decide +kernel
theorem dX5_test_8 : decode cX5_test 8 = .ok (.iconst 3, 1) := by decide +kernel
theorem dX5_test_9 : decode cX5_test 9 = .ok (.invokestatic 53, 3) := by decide +kernel
theorem dX5_test_12 : decode cX5_test 12 = .ok (.iload_n 3, 1) := by decide +kernel
theorem dX5_test_13 : decode cX5_test 13 = .ok (.iconst 0, 1) := by decide +kernel
theorem dX5_test_14 : decode cX5_test 14 = .ok (.bipush 9, 2) := by decide +kernel
theorem dX5_test_16 : decode cX5_test 16 = .ok (.invokestatic 53, 3) := by decide +kernel
theorem dX5_test_19 : decode cX5_test 19 = .ok (.aload_n 0, 1) := by decide +kernel
theorem dX5_test_20 : decode cX5_test 20 = .ok (.invokevirtual 159, 3) := by decide +kernel
theorem dX5_test_23 : decode cX5_test 23 = .ok (.aload_n 0, 1) := by decide +kernel
theorem dX5_test_24 : decode cX5_test 24 = .ok (.getfield 45, 3) := by decide +kernel
theorem dX5_test_27 : decode cX5_test 27 = .ok (.iload_n 1, 1) := by decide +kernel
theorem dX5_test_28 : decode cX5_test 28 = .ok (.iload_n 2, 1) := by decide +kernel
theorem dX5_test_29 : decode cX5_test 29 = .ok (.iload_n 3, 1) := by decide +kernel
theorem dX5_test_30 : decode cX5_test 30 = .ok (.invokevirtual 162, 3) := by decide +kernel
theorem dX5_test_33 : decode cX5_test 33 = .ok (.ireturn, 1) := by decide +kernel
set_option maxRecDepth 20000 in
theorem ggX5_join_X5_checkIndex : GoodIn wsX5_join wsX5_checkIndex := goodIn_ca (goodIn_r _ [5, 6, 7] (by decide +kernel) (by decide +kernel)) (goodIn_sub (fun _ h => List.mem_cons_of_mem _ (List.mem_append_left _ (List.mem_append_left _ (List.mem_append_right _ h)))) (by decide +kernel))
set_option maxRecDepth 20000 in
theorem gX5_join_X5_checkIndex : GoodIn wsX5_join (va_wsS RX5 49 yX5_checkIndex wsX5_checkIndex) := goodIn_app (goodIn_of _ (by decide +kernel)) ggX5_join_X5_checkIndex
set_option maxRecDepth 20000 in
theorem ggX5_join_X5_checkArgument : GoodIn wsX5_join wsX5_checkArgument := goodIn_ca (goodIn_r _ [10, 11, 12] (by decide +kernel) (by decide +kernel)) (goodIn_sub (fun _ h => List.mem_cons_of_mem _ (List.mem_append_left _ (List.mem_append_right _ h))) (by decide +kernel))
set_option maxRecDepth 20000 in
theorem gX5_join_X5_checkArgument : GoodIn wsX5_join (va_wsS RX5 53 yX5_checkArgument wsX5_checkArgument) := goodIn_app (goodIn_of _ (by decide +kernel)) ggX5_join_X5_checkArgument
set_option maxRecDepth 20000 in
theorem ggX5_join_X5_checkRoomForFilter : GoodIn wsX5_join wsX5_checkRoomForFilter := goodIn_ca (goodIn_r _ [16, 17, 18, 1, 30, 31, 32, 33, 34, 35, 36, 37, 38, 39, 40] (by decide +kernel) (by decide +kernel)) (goodIn_sub (fun _ h => List.mem_cons_of_mem _ (List.mem_append_right _ h)) (by decide +kernel))
set_option maxRecDepth 20000 in
theorem gX5_join_X5_checkRoomForFilter : GoodIn wsX5_join (wsV RX5 159 RX5 yX5_checkRoomForFilter wsX5_checkRoomForFilter) := goodIn_app (goodIn_of _ (by decide +kernel)) ggX5_join_X5_checkRoomForFilter
set_option maxRecDepth 20000 in
theorem ggX5_join_X1_append : GoodIn wsX5_join wsX1_append := goodIn_r _ [23, 24, 25, 26, 27, 28, 4, 29, 36, 37, 38, 39, 40] (by decide +kernel) (by decide +kernel)
set_option maxRecDepth 20000 in
theorem gX5_join_X1_append : GoodIn wsX5_join (wsV RX5 162 RX1 yX1_append wsX1_append) := goodIn_app (goodIn_of _ (by decide +kernel)) ggX5_join_X1_append
theorem dX5_join_0 : decode cX5_join 0 = .ok (.iload_n 2, 1) := by decide +kernel
theorem dX5_join_1 : decode cX5_join 1 = .ok (.aload_n 0, 1) := by decide +kernel
theorem dX5_join_2 : decode cX5_join 2 = .ok (.getfield 45, 3) := by decide +kernel
theorem dX5_join_5 : decode cX5_join 5 = .ok (.getfield 164, 3) := by decide +kernel
theorem dX5_join_8 : decode cX5_join 8 = .ok (.invokestatic 49, 3) := by decide +kernel
theorem dX5_join_11 : decode cX5_join 11 = .ok (.iload_n 3, 1) := by decide +kernel
theorem dX5_join_12 : decode cX5_join 12 = .ok (.aload_n 0, 1) := by decide +kernel
theorem dX5_join_13 : decode cX5_join 13 = .ok (.getfield 45, 3) := by decide +kernel
theorem dX5_join_16 : decode cX5_join 16 = .ok (.getfield 164, 3) := by decide +kernel
theorem dX5_join_19 : decode cX5_join 19 = .ok (.invokestatic 49, 3) := by decide +kernel
theorem dX5_join_22 : decode cX5_join 22 = .ok (.iload_n 1, 1) := by decide +kernel
theorem dX5_join_23 : decode cX5_join 23 = .ok (.iconst 0, 1) := by decide +kernel
theorem dX5_join_24 : decode cX5_join 24 = .ok (.iconst 2, 1) := by decide +kernel
theorem dX5_join_25 : decode cX5_join 25 = .ok (.invokestatic 53, 3) := by decide +kernel
theorem dX5_join_28 : decode cX5_join 28 = .ok (.aload_n 0, 1) := by decide +kernel
theorem dX5_join_29 : decode cX5_join 29 = .ok (.invokevirtual 159, 3) := by decide +kernel
theorem dX5_join_32 : decode cX5_join 32 = .ok (.aload_n 0, 1) := by decide +kernel
theorem dX5_join_33 : decode cX5_join 33 = .ok (.getfield 45, 3) := by decide +kernel
theorem dX5_join_36 : decode cX5_join 36 = .ok (.iconst 3, 1) := by decide +kernel
theorem dX5_join_37 : decode cX5_join 37 = .ok (.iload_n 1, 1) := by decide +kernel
theorem dX5_join_38 : decode cX5_join 38 = .ok (.iadd, 1) := by decide +kernel
theorem dX5_join_39 : decode cX5_join 39 = .ok (.iload_n 2, 1) := by decide +kernel
theorem dX5_join_40 : decode cX5_join 40 = .ok (.iload_n 3, 1) := by decide +kernel
theorem dX5_join_41 : decode cX5_join 41 = .ok (.invokevirtual 162, 3) := by decide +kernel
theorem dX5_join_44 : decode cX5_join 44 = .ok (.ireturn, 1) := by decide +kernel
set_option maxRecDepth 20000 in
theorem ggX5_holds_X5_treeOf : GoodIn wsX5_holds wsX5_treeOf := goodIn_ca (goodIn_r _ [6, 7, 8, 9, 10, 5, 11, 12, 13, 66, 67, 68, 69, 70, 71] (by decide +kernel) (by decide +kernel)) (goodIn_sub (fun _ h => List.mem_cons_of_mem _ (List.mem_append_right _ h)) (by decide +kernel))
set_option maxRecDepth 20000 in
theorem gX5_holds_X5_treeOf : GoodIn wsX5_holds (wsV RX5 71 RX5 yX5_treeOf wsX5_treeOf) := goodIn_app (goodIn_of _ (by decide +kernel)) ggX5_holds_X5_treeOf
set_option maxRecDepth 20000 in
theorem ggX5_holds_X5_checkIndex : GoodIn wsX5_holds wsX5_checkIndex := goodIn_ca (goodIn_r _ [11, 12, 13] (by decide +kernel) (by decide +kernel)) (goodIn_sub (fun _ h => List.mem_cons_of_mem _ (List.mem_append_right _ h)) (by decide +kernel))
set_option maxRecDepth 20000 in
theorem gX5_holds_X5_checkIndex : GoodIn wsX5_holds (va_wsS RX5 49 yX5_checkIndex wsX5_checkIndex) := goodIn_app (goodIn_of _ (by decide +kernel)) ggX5_holds_X5_checkIndex
set_option maxRecDepth 20000 in
theorem ggX5_holds_X5_checkEntry : GoodIn wsX5_holds wsX5_checkEntry := goodIn_ca (goodIn_r _ [16, 12, 13, 17, 18, 19, 20, 21, 22, 77, 78, 79, 80, 81, 82, 83, 84, 85, 86, 87] (by decide +kernel) (by decide +kernel)) (goodIn_sub (fun _ h => List.mem_cons_of_mem _ (List.mem_append_right _ h)) (by decide +kernel))
set_option maxRecDepth 20000 in
theorem gX5_holds_X5_checkEntry : GoodIn wsX5_holds (va_wsS RX5 75 yX5_checkEntry wsX5_checkEntry) := goodIn_app (goodIn_of _ (by decide +kernel)) ggX5_holds_X5_checkEntry
set_option maxRecDepth 20000 in
theorem ggX5_holds_X1_truthFor : GoodIn wsX5_holds wsX1_truthFor := goodIn_r _ [27, 28, 29, 30, 31, 32, 33, 26, 34, 35, 36, 37, 20, 38, 39, 40, 41, 5, 42, 43, 44, 45, 46, 47, 48, 49, 50, 51, 52, 53, 54, 55, 56, 57, 58, 59, 60, 61, 62, 63, 64, 65, 72, 73, 74, 75, 76, 77, 78, 79, 80, 81, 82, 83, 84, 85, 86, 87, 88, 89] (by decide +kernel) (by decide +kernel)
set_option maxRecDepth 20000 in
theorem gX5_holds_X1_truthFor : GoodIn wsX5_holds (wsV RX5 165 RX1 yX1_truthFor wsX1_truthFor) := goodIn_app (goodIn_of _ (by decide +kernel)) ggX5_holds_X1_truthFor
theorem dX5_holds_0 : decode cX5_holds 0 = .ok (.aload_n 0, 1) := by decide +kernel
theorem dX5_holds_1 : decode cX5_holds 1 = .ok (.iload_n 1, 1) := by decide +kernel
theorem dX5_holds_2 : decode cX5_holds 2 = .ok (.invokevirtual 71, 3) := by decide +kernel
theorem dX5_holds_5 : decode cX5_holds 5 = .ok (.astore 4, 2) := by decide +kernel
theorem dX5_holds_7 : decode cX5_holds 7 = .ok (.iload_n 2, 1) := by decide +kernel
theorem dX5_holds_8 : decode cX5_holds 8 = .ok (.aload_n 0, 1) := by decide +kernel
theorem dX5_holds_9 : decode cX5_holds 9 = .ok (.getfield 45, 3) := by decide +kernel
theorem dX5_holds_12 : decode cX5_holds 12 = .ok (.getfield 164, 3) := by decide +kernel
theorem dX5_holds_15 : decode cX5_holds 15 = .ok (.invokestatic 49, 3) := by decide +kernel
theorem dX5_holds_18 : decode cX5_holds 18 = .ok (.aload 4, 2) := by decide +kernel
theorem dX5_holds_20 : decode cX5_holds 20 = .ok (.iload_n 3, 1) := by decide +kernel
theorem dX5_holds_21 : decode cX5_holds 21 = .ok (.invokestatic 75, 3) := by decide +kernel
theorem dX5_holds_24 : decode cX5_holds 24 = .ok (.aload_n 0, 1) := by decide +kernel
theorem dX5_holds_25 : decode cX5_holds 25 = .ok (.getfield 45, 3) := by decide +kernel
theorem dX5_holds_28 : decode cX5_holds 28 = .ok (.iload_n 2, 1) := by decide +kernel
theorem dX5_holds_29 : decode cX5_holds 29 = .ok (.aload 4, 2) := by decide +kernel
theorem dX5_holds_31 : decode cX5_holds 31 = .ok (.iload_n 3, 1) := by decide +kernel
theorem dX5_holds_32 : decode cX5_holds 32 = .ok (.invokevirtual 165, 3) := by decide +kernel
theorem dX5_holds_35 : decode cX5_holds 35 = .ok (.ireturn, 1) := by decide +kernel
set_option maxRecDepth 20000 in
theorem ggX5_search_X5_treeOf : GoodIn wsX5_search wsX5_treeOf := goodIn_ca (goodIn_r _ [9, 10, 11, 12, 13, 8, 14, 1, 2, 116, 117, 118, 119, 120, 121] (by decide +kernel) (by decide +kernel)) (goodIn_sub (fun _ h => List.mem_cons_of_mem _ (List.mem_append_left _ (List.mem_append_right _ h))) (by decide +kernel))
set_option maxRecDepth 20000 in
theorem gX5_search_X5_treeOf : GoodIn wsX5_search (wsV RX5 71 RX5 yX5_treeOf wsX5_treeOf) := goodIn_app (goodIn_of _ (by decide +kernel)) ggX5_search_X5_treeOf
set_option maxRecDepth 20000 in
theorem ggX5_search_X5_checkIndex : GoodIn wsX5_search wsX5_checkIndex := goodIn_ca (goodIn_r _ [14, 1, 2] (by decide +kernel) (by decide +kernel)) (goodIn_sub (fun _ h => List.mem_cons_of_mem _ (List.mem_append_left _ (List.mem_append_right _ h))) (by decide +kernel))
set_option maxRecDepth 20000 in
theorem gX5_search_X5_checkIndex : GoodIn wsX5_search (va_wsS RX5 49 yX5_checkIndex wsX5_checkIndex) := goodIn_app (goodIn_of _ (by decide +kernel)) ggX5_search_X5_checkIndex
set_option maxRecDepth 20000 in
theorem ggX5_search_X5_checkEntry : GoodIn wsX5_search wsX5_checkEntry := goodIn_ca (goodIn_r _ [17, 1, 2, 18, 19, 20, 21, 22, 23, 127, 128, 129, 130, 131, 132, 133, 134, 135, 136, 137] (by decide +kernel) (by decide +kernel)) (goodIn_sub (fun _ h => List.mem_cons_of_mem _ (List.mem_append_left _ (List.mem_append_right _ h))) (by decide +kernel))
set_option maxRecDepth 20000 in
theorem gX5_search_X5_checkEntry : GoodIn wsX5_search (va_wsS RX5 75 yX5_checkEntry wsX5_checkEntry) := goodIn_app (goodIn_of _ (by decide +kernel)) ggX5_search_X5_checkEntry
set_option maxRecDepth 20000 in
theorem ggX5_search_X5_checkArgument : GoodIn wsX5_search wsX5_checkArgument := goodIn_ca (goodIn_r _ [26, 27, 28] (by decide +kernel) (by decide +kernel)) (goodIn_sub (fun _ h => List.mem_cons_of_mem _ (List.mem_append_right _ h)) (by decide +kernel))
set_option maxRecDepth 20000 in
theorem gX5_search_X5_checkArgument : GoodIn wsX5_search (va_wsS RX5 53 yX5_checkArgument wsX5_checkArgument) := goodIn_app (goodIn_of _ (by decide +kernel)) ggX5_search_X5_checkArgument
set_option maxRecDepth 20000 in
theorem ggX5_search_X4_childAfter : GoodIn wsX5_search wsX4_childAfter := goodIn_r _ [32, 33, 34, 35, 36, 37, 38, 39, 40, 41, 42, 21, 43, 44, 45, 46, 47, 48, 49, 8, 50, 127, 128, 129, 130, 131, 132, 133, 134, 135, 136, 137, 138, 139] (by decide +kernel) (by decide +kernel)
set_option maxRecDepth 20000 in
theorem gX5_search_X4_childAfter : GoodIn wsX5_search (wsV RX5 174 RX4 yX4_childAfter wsX4_childAfter) := goodIn_app (goodIn_of _ (by decide +kernel)) ggX5_search_X4_childAfter
set_option maxRecDepth 20000 in
theorem ggX5_search_X5_isFound : GoodIn wsX5_search wsX5_isFound := goodIn_r _ [54, 3, 4, 55, 56, 57, 58, 59, 60, 61, 62, 63, 64, 65, 66, 67, 68, 69, 21, 70, 71, 72, 49, 8, 50, 73, 74, 75, 76, 77, 78, 79, 80, 81, 82, 83, 84, 85, 86, 87, 88, 89, 90, 91, 92, 93, 94, 95, 96, 97, 98, 37, 99, 100, 101, 102, 103, 104, 33, 116, 117, 118, 119, 120, 121, 122, 123, 124, 125, 126, 127, 128, 129, 130, 131, 132, 133, 134, 135, 136, 137, 140, 141, 138, 139] (by decide +kernel) (by decide +kernel)
set_option maxRecDepth 20000 in
theorem gX5_search_X5_isFound : GoodIn wsX5_search (wsV RX5 178 RX5 yX5_isFound wsX5_isFound) := goodIn_app (goodIn_of _ (by decide +kernel)) ggX5_search_X5_isFound
set_option maxRecDepth 20000 in
theorem ggX5_search_X5_nextInScope : GoodIn wsX5_search wsX5_nextInScope := goodIn_r _ [108, 4, 109, 41, 42, 21, 43, 44, 45, 46, 47, 48, 49, 8, 50, 29, 30, 31, 32, 33, 34, 35, 36, 37, 38, 39, 40, 110, 111, 112, 113, 114, 115, 102, 103, 104, 116, 117, 118, 119, 120, 121, 127, 128, 129, 130, 131, 132, 133, 134, 135, 136, 137, 138, 139] (by decide +kernel) (by decide +kernel)
set_option maxRecDepth 20000 in
theorem gX5_search_X5_nextInScope : GoodIn wsX5_search (wsV RX5 182 RX5 yX5_nextInScope wsX5_nextInScope) := goodIn_app (goodIn_of _ (by decide +kernel)) ggX5_search_X5_nextInScope
theorem dX5_search_0 : decode cX5_search 0 = .ok (.aload_n 0, 1) := by decide +kernel
theorem dX5_search_1 : decode cX5_search 1 = .ok (.iload_n 1, 1) := by decide +kernel
theorem dX5_search_2 : decode cX5_search 2 = .ok (.invokevirtual 71, 3) := by decide +kernel
theorem dX5_search_5 : decode cX5_search 5 = .ok (.astore 7, 2) := by decide +kernel
theorem dX5_search_7 : decode cX5_search 7 = .ok (.iload_n 2, 1) := by decide +kernel
theorem dX5_search_8 : decode cX5_search 8 = .ok (.iconst 3, 1) := by decide +kernel
theorem dX5_search_9 : decode cX5_search 9 = .ok (.invokestatic 49, 3) := by decide +kernel
theorem dX5_search_12 : decode cX5_search 12 = .ok (.aload 7, 2) := by decide +kernel
theorem dX5_search_14 : decode cX5_search 14 = .ok (.iload_n 3, 1) := by decide +kernel
theorem dX5_search_15 : decode cX5_search 15 = .ok (.invokestatic 75, 3) := by decide +kernel
theorem dX5_search_18 : decode cX5_search 18 = .ok (.iload 5, 2) := by decide +kernel
theorem dX5_search_20 : decode cX5_search 20 = .ok (.aload_n 0, 1) := by decide +kernel
theorem dX5_search_21 : decode cX5_search 21 = .ok (.getfield 45, 3) := by decide +kernel
theorem dX5_search_24 : decode cX5_search 24 = .ok (.getfield 164, 3) := by decide +kernel
theorem dX5_search_27 : decode cX5_search 27 = .ok (.invokestatic 49, 3) := by decide +kernel
theorem dX5_search_30 : decode cX5_search 30 = .ok (.iload 6, 2) := by decide +kernel
theorem dX5_search_32 : decode cX5_search 32 = .ok (.ifCond .ge 13, 3) := by decide +kernel
theorem dX5_search_35 : decode cX5_search 35 = .ok (.new 169, 3) := by decide +kernel
theorem dX5_search_38 : decode cX5_search 38 = .ok (.dup, 1) := by decide +kernel
theorem dX5_search_39 : decode cX5_search 39 = .ok (.ldc 171, 2) := by decide +kernel
theorem dX5_search_41 : decode cX5_search 41 = .ok (.invokespecial 173, 3) := by decide +kernel
theorem dX5_search_44 : decode cX5_search 44 = .ok (.athrow, 1) := by decide +kernel
theorem dX5_search_45 : decode cX5_search 45 = .ok (.iload 4, 2) := by decide +kernel
theorem dX5_search_47 : decode cX5_search 47 = .ok (.iconst 0, 1) := by decide +kernel
theorem dX5_search_48 : decode cX5_search 48 = .ok (.iconst 2, 1) := by decide +kernel
theorem dX5_search_49 : decode cX5_search 49 = .ok (.invokestatic 53, 3) := by decide +kernel
theorem dX5_search_52 : decode cX5_search 52 = .ok (.iconst 0, 1) := by decide +kernel
theorem dX5_search_53 : decode cX5_search 53 = .ok (.istore 8, 2) := by decide +kernel
theorem dX5_search_55 : decode cX5_search 55 = .ok (.iload 4, 2) := by decide +kernel
theorem dX5_search_57 : decode cX5_search 57 = .ok (.iconst 1, 1) := by decide +kernel
theorem dX5_search_58 : decode cX5_search 58 = .ok (.if_icmp .ne 17, 3) := by decide +kernel
theorem dX5_search_61 : decode cX5_search 61 = .ok (.aload 7, 2) := by decide +kernel
theorem dX5_search_63 : decode cX5_search 63 = .ok (.iload_n 3, 1) := by decide +kernel
theorem dX5_search_64 : decode cX5_search 64 = .ok (.iconst (-1), 1) := by decide +kernel
theorem dX5_search_65 : decode cX5_search 65 = .ok (.aload_n 0, 1) := by decide +kernel
theorem dX5_search_66 : decode cX5_search 66 = .ok (.getfield 38, 3) := by decide +kernel
theorem dX5_search_69 : decode cX5_search 69 = .ok (.invokevirtual 174, 3) := by decide +kernel
theorem dX5_search_72 : decode cX5_search 72 = .ok (.goto 4, 3) := by decide +kernel
theorem dX5_search_75 : decode cX5_search 75 = .ok (.iload_n 3, 1) := by decide +kernel
theorem dX5_search_76 : decode cX5_search 76 = .ok (.istore 9, 2) := by decide +kernel
theorem dX5_search_78 : decode cX5_search 78 = .ok (.iconst 0, 1) := by decide +kernel
theorem dX5_search_79 : decode cX5_search 79 = .ok (.istore 10, 2) := by decide +kernel
theorem dX5_search_81 : decode cX5_search 81 = .ok (.iload 10, 2) := by decide +kernel
theorem dX5_search_83 : decode cX5_search 83 = .ok (.bipush 42, 2) := by decide +kernel
theorem dX5_search_85 : decode cX5_search 85 = .ok (.if_icmp .ge 55, 3) := by decide +kernel
theorem dX5_search_88 : decode cX5_search 88 = .ok (.iload 9, 2) := by decide +kernel
theorem dX5_search_90 : decode cX5_search 90 = .ok (.iconst (-1), 1) := by decide +kernel
theorem dX5_search_91 : decode cX5_search 91 = .ok (.if_icmp .eq 49, 3) := by decide +kernel
theorem dX5_search_94 : decode cX5_search 94 = .ok (.aload_n 0, 1) := by decide +kernel
theorem dX5_search_95 : decode cX5_search 95 = .ok (.aload 7, 2) := by decide +kernel
theorem dX5_search_97 : decode cX5_search 97 = .ok (.iload_n 2, 1) := by decide +kernel
theorem dX5_search_98 : decode cX5_search 98 = .ok (.iload 5, 2) := by decide +kernel
theorem dX5_search_100 : decode cX5_search 100 = .ok (.iload 9, 2) := by decide +kernel
theorem dX5_search_102 : decode cX5_search 102 = .ok (.invokevirtual 178, 3) := by decide +kernel
theorem dX5_search_105 : decode cX5_search 105 = .ok (.ifCond .eq 16, 3) := by decide +kernel
theorem dX5_search_108 : decode cX5_search 108 = .ok (.iload 8, 2) := by decide +kernel
theorem dX5_search_110 : decode cX5_search 110 = .ok (.iload 6, 2) := by decide +kernel
theorem dX5_search_112 : decode cX5_search 112 = .ok (.if_icmp .ne 6, 3) := by decide +kernel
theorem dX5_search_115 : decode cX5_search 115 = .ok (.iload 9, 2) := by decide +kernel
theorem dX5_search_117 : decode cX5_search 117 = .ok (.ireturn, 1) := by decide +kernel
theorem dX5_search_118 : decode cX5_search 118 = .ok (.iinc 8 1, 3) := by decide +kernel
theorem dX5_search_121 : decode cX5_search 121 = .ok (.aload_n 0, 1) := by decide +kernel
theorem dX5_search_122 : decode cX5_search 122 = .ok (.aload 7, 2) := by decide +kernel
theorem dX5_search_124 : decode cX5_search 124 = .ok (.iload_n 3, 1) := by decide +kernel
theorem dX5_search_125 : decode cX5_search 125 = .ok (.iload 4, 2) := by decide +kernel
theorem dX5_search_127 : decode cX5_search 127 = .ok (.iload 9, 2) := by decide +kernel
theorem dX5_search_129 : decode cX5_search 129 = .ok (.invokevirtual 182, 3) := by decide +kernel
theorem dX5_search_132 : decode cX5_search 132 = .ok (.istore 9, 2) := by decide +kernel
theorem dX5_search_134 : decode cX5_search 134 = .ok (.iinc 10 1, 3) := by decide +kernel
theorem dX5_search_137 : decode cX5_search 137 = .ok (.goto (-56), 3) := by decide +kernel
theorem dX5_search_140 : decode cX5_search 140 = .ok (.iconst (-1), 1) := by decide +kernel
theorem dX5_search_141 : decode cX5_search 141 = .ok (.ireturn, 1) := by decide +kernel
set_option maxRecDepth 20000 in
theorem ggX5_isFound_X1_truthFor : GoodIn wsX5_isFound wsX1_truthFor := goodIn_r _ [7, 8, 9, 10, 11, 12, 13, 6, 14, 15, 16, 17, 18, 19, 20, 21, 22, 23, 24, 25, 26, 27, 28, 29, 30, 31, 32, 33, 34, 35, 36, 37, 38, 39, 40, 41, 42, 43, 44, 45, 46, 47, 65, 66, 67, 68, 69, 70, 71, 72, 73, 74, 75, 76, 77, 78, 79, 80, 81, 82] (by decide +kernel) (by decide +kernel)
set_option maxRecDepth 20000 in
theorem gX5_isFound_X1_truthFor : GoodIn wsX5_isFound (wsV RX5 165 RX1 yX1_truthFor wsX1_truthFor) := goodIn_app (goodIn_of _ (by decide +kernel)) ggX5_isFound_X1_truthFor
set_option maxRecDepth 20000 in
theorem ggX5_isFound_X3_rightThatCounts : GoodIn wsX5_isFound wsX3_rightThatCounts := goodIn_r _ [52, 53, 22, 23, 24, 54, 55, 56, 18, 57, 58, 83, 84, 70, 71, 72, 73, 74, 75, 76, 77, 78, 79, 80] (by decide +kernel) (by decide +kernel)
set_option maxRecDepth 20000 in
theorem gX5_isFound_X3_rightThatCounts : GoodIn wsX5_isFound (wsV RX5 186 RX3 yX3_rightThatCounts wsX3_rightThatCounts) := goodIn_app (goodIn_of _ (by decide +kernel)) ggX5_isFound_X3_rightThatCounts
theorem dX5_isFound_0 : decode cX5_isFound 0 = .ok (.aload_n 0, 1) := by decide +kernel
theorem dX5_isFound_1 : decode cX5_isFound 1 = .ok (.getfield 45, 3) := by decide +kernel
theorem dX5_isFound_4 : decode cX5_isFound 4 = .ok (.iload_n 3, 1) := by decide +kernel
theorem dX5_isFound_5 : decode cX5_isFound 5 = .ok (.aload_n 1, 1) := by decide +kernel
theorem dX5_isFound_6 : decode cX5_isFound 6 = .ok (.iload 4, 2) := by decide +kernel
theorem dX5_isFound_8 : decode cX5_isFound 8 = .ok (.invokevirtual 165, 3) := by decide +kernel
theorem dX5_isFound_11 : decode cX5_isFound 11 = .ok (.iconst 1, 1) := by decide +kernel
theorem dX5_isFound_12 : decode cX5_isFound 12 = .ok (.if_icmp .ne 21, 3) := by decide +kernel
theorem dX5_isFound_15 : decode cX5_isFound 15 = .ok (.aload_n 0, 1) := by decide +kernel
theorem dX5_isFound_16 : decode cX5_isFound 16 = .ok (.getfield 38, 3) := by decide +kernel
theorem dX5_isFound_19 : decode cX5_isFound 19 = .ok (.iload_n 2, 1) := by decide +kernel
theorem dX5_isFound_20 : decode cX5_isFound 20 = .ok (.aload_n 1, 1) := by decide +kernel
theorem dX5_isFound_21 : decode cX5_isFound 21 = .ok (.iload 4, 2) := by decide +kernel
theorem dX5_isFound_23 : decode cX5_isFound 23 = .ok (.invokevirtual 186, 3) := by decide +kernel
theorem dX5_isFound_26 : decode cX5_isFound 26 = .ok (.ifCond .ne 7, 3) := by decide +kernel
theorem dX5_isFound_29 : decode cX5_isFound 29 = .ok (.iconst 1, 1) := by decide +kernel
theorem dX5_isFound_30 : decode cX5_isFound 30 = .ok (.goto 4, 3) := by decide +kernel
theorem dX5_isFound_33 : decode cX5_isFound 33 = .ok (.iconst 0, 1) := by decide +kernel
theorem dX5_isFound_34 : decode cX5_isFound 34 = .ok (.ireturn, 1) := by decide +kernel
set_option maxRecDepth 20000 in
theorem ggX5_nextInScope_X4_orderUnderParent : GoodIn wsX5_nextInScope wsX4_orderUnderParent := goodIn_r _ [6, 7, 8, 9, 5, 10, 11, 12, 13, 14, 42, 43, 44, 45, 46, 47, 48, 49, 50, 51, 52] (by decide +kernel) (by decide +kernel)
set_option maxRecDepth 20000 in
theorem gX5_nextInScope_X4_orderUnderParent : GoodIn wsX5_nextInScope (wsV RX5 189 RX4 yX4_orderUnderParent wsX4_orderUnderParent) := goodIn_app (goodIn_of _ (by decide +kernel)) ggX5_nextInScope_X4_orderUnderParent
set_option maxRecDepth 20000 in
theorem ggX5_nextInScope_X4_childAfter : GoodIn wsX5_nextInScope wsX4_childAfter := goodIn_r _ [18, 19, 20, 21, 22, 23, 24, 25, 26, 3, 4, 5, 6, 7, 8, 9, 10, 11, 12, 13, 14, 42, 43, 44, 45, 46, 47, 48, 49, 50, 51, 52, 53, 54] (by decide +kernel) (by decide +kernel)
set_option maxRecDepth 20000 in
theorem gX5_nextInScope_X4_childAfter : GoodIn wsX5_nextInScope (wsV RX5 174 RX4 yX4_childAfter wsX4_childAfter) := goodIn_app (goodIn_of _ (by decide +kernel)) ggX5_nextInScope_X4_childAfter
set_option maxRecDepth 20000 in
theorem ggX5_nextInScope_X4_entryAfter : GoodIn wsX5_nextInScope wsX4_entryAfter := goodIn_r _ [30, 31, 16, 17, 5, 18, 19, 20, 21, 22, 23, 24, 25, 26, 3, 4, 6, 7, 8, 9, 10, 11, 12, 13, 14, 32, 33, 34, 35, 42, 43, 44, 45, 46, 47, 48, 49, 50, 51, 52, 53, 54] (by decide +kernel) (by decide +kernel)
set_option maxRecDepth 20000 in
theorem gX5_nextInScope_X4_entryAfter : GoodIn wsX5_nextInScope (wsV RX5 192 RX4 yX4_entryAfter wsX4_entryAfter) := goodIn_app (goodIn_of _ (by decide +kernel)) ggX5_nextInScope_X4_entryAfter
theorem dX5_nextInScope_0 : decode cX5_nextInScope 0 = .ok (.iload_n 3, 1) := by decide +kernel
theorem dX5_nextInScope_1 : decode cX5_nextInScope 1 = .ok (.lookupswitch 55 #[(1, 27), (2, 43)], 27) := by decide +kernel
theorem dX5_nextInScope_28 : decode cX5_nextInScope 28 = .ok (.aload_n 1, 1) := by decide +kernel
theorem dX5_nextInScope_29 : decode cX5_nextInScope 29 = .ok (.iload_n 2, 1) := by decide +kernel
theorem dX5_nextInScope_30 : decode cX5_nextInScope 30 = .ok (.aload_n 1, 1) := by decide +kernel
theorem dX5_nextInScope_31 : decode cX5_nextInScope 31 = .ok (.iload 4, 2) := by decide +kernel
theorem dX5_nextInScope_33 : decode cX5_nextInScope 33 = .ok (.invokevirtual 189, 3) := by decide +kernel
theorem dX5_nextInScope_36 : decode cX5_nextInScope 36 = .ok (.aload_n 0, 1) := by decide +kernel
theorem dX5_nextInScope_37 : decode cX5_nextInScope 37 = .ok (.getfield 38, 3) := by decide +kernel
theorem dX5_nextInScope_40 : decode cX5_nextInScope 40 = .ok (.invokevirtual 174, 3) := by decide +kernel
theorem dX5_nextInScope_43 : decode cX5_nextInScope 43 = .ok (.ireturn, 1) := by decide +kernel
theorem dX5_nextInScope_44 : decode cX5_nextInScope 44 = .ok (.aload_n 1, 1) := by decide +kernel
theorem dX5_nextInScope_45 : decode cX5_nextInScope 45 = .ok (.iload 4, 2) := by decide +kernel
theorem dX5_nextInScope_47 : decode cX5_nextInScope 47 = .ok (.iload_n 2, 1) := by decide +kernel
theorem dX5_nextInScope_48 : decode cX5_nextInScope 48 = .ok (.aload_n 0, 1) := by decide +kernel
theorem dX5_nextInScope_49 : decode cX5_nextInScope 49 = .ok (.getfield 38, 3) := by decide +kernel
theorem dX5_nextInScope_52 : decode cX5_nextInScope 52 = .ok (.invokevirtual 192, 3) := by decide +kernel
theorem dX5_nextInScope_55 : decode cX5_nextInScope 55 = .ok (.ireturn, 1) := by decide +kernel
theorem dX5_nextInScope_56 : decode cX5_nextInScope 56 = .ok (.iconst (-1), 1) := by decide +kernel
theorem dX5_nextInScope_57 : decode cX5_nextInScope 57 = .ok (.ireturn, 1) := by decide +kernel
set_option maxRecDepth 20000 in
theorem ggX5_treeOf_X5_checkIndex : GoodIn wsX5_treeOf wsX5_checkIndex := goodIn_ca (goodIn_r _ [6, 7, 8] (by decide +kernel) (by decide +kernel)) (goodIn_sub (fun _ h => List.mem_cons_of_mem _ (List.mem_append_right _ h)) (by decide +kernel))
set_option maxRecDepth 20000 in
theorem gX5_treeOf_X5_checkIndex : GoodIn wsX5_treeOf (va_wsS RX5 49 yX5_checkIndex wsX5_checkIndex) := goodIn_app (goodIn_of _ (by decide +kernel)) ggX5_treeOf_X5_checkIndex
theorem dX5_treeOf_0 : decode cX5_treeOf 0 = .ok (.iload_n 1, 1) := by decide +kernel
theorem dX5_treeOf_1 : decode cX5_treeOf 1 = .ok (.iconst 2, 1) := by decide +kernel
theorem dX5_treeOf_2 : decode cX5_treeOf 2 = .ok (.invokestatic 49, 3) := by decide +kernel
theorem dX5_treeOf_5 : decode cX5_treeOf 5 = .ok (.iload_n 1, 1) := by decide +kernel
theorem dX5_treeOf_6 : decode cX5_treeOf 6 = .ok (.ifCond .ne 10, 3) := by decide +kernel
theorem dX5_treeOf_9 : decode cX5_treeOf 9 = .ok (.aload_n 0, 1) := by decide +kernel
theorem dX5_treeOf_10 : decode cX5_treeOf 10 = .ok (.getfield 28, 3) := by decide +kernel
theorem dX5_treeOf_13 : decode cX5_treeOf 13 = .ok (.goto 7, 3) := by decide +kernel
theorem dX5_treeOf_16 : decode cX5_treeOf 16 = .ok (.aload_n 0, 1) := by decide +kernel
theorem dX5_treeOf_17 : decode cX5_treeOf 17 = .ok (.getfield 32, 3) := by decide +kernel
theorem dX5_treeOf_20 : decode cX5_treeOf 20 = .ok (.areturn, 1) := by decide +kernel
theorem dX5_checkIndex_0 : decode cX5_checkIndex 0 = .ok (.iload_n 0, 1) := by decide +kernel
theorem dX5_checkIndex_1 : decode cX5_checkIndex 1 = .ok (.ifCond .lt 8, 3) := by decide +kernel
theorem dX5_checkIndex_4 : decode cX5_checkIndex 4 = .ok (.iload_n 0, 1) := by decide +kernel
theorem dX5_checkIndex_5 : decode cX5_checkIndex 5 = .ok (.iload_n 1, 1) := by decide +kernel
theorem dX5_checkIndex_6 : decode cX5_checkIndex 6 = .ok (.if_icmp .lt 13, 3) := by decide +kernel
theorem dX5_checkIndex_9 : decode cX5_checkIndex 9 = .ok (.new 169, 3) := by decide +kernel
theorem dX5_checkIndex_12 : decode cX5_checkIndex 12 = .ok (.dup, 1) := by decide +kernel
theorem dX5_checkIndex_13 : decode cX5_checkIndex 13 = .ok (.ldc 195, 2) := by decide +kernel
theorem dX5_checkIndex_15 : decode cX5_checkIndex 15 = .ok (.invokespecial 173, 3) := by decide +kernel
theorem dX5_checkIndex_18 : decode cX5_checkIndex 18 = .ok (.athrow, 1) := by decide +kernel
theorem dX5_checkIndex_19 : decode cX5_checkIndex 19 = .ok (.return_, 1) := by decide +kernel
set_option maxRecDepth 20000 in
theorem ggX5_checkEntry_X4_has : GoodIn wsX5_checkEntry wsX4_has := goodIn_r _ [7, 8, 9, 10, 11, 12, 13, 14, 15, 16, 17, 18, 19] (by decide +kernel) (by decide +kernel)
set_option maxRecDepth 20000 in
theorem gX5_checkEntry_X4_has : GoodIn wsX5_checkEntry (wsV RX5 135 RX4 yX4_has wsX4_has) := goodIn_app (goodIn_of _ (by decide +kernel)) ggX5_checkEntry_X4_has
theorem dX5_checkEntry_0 : decode cX5_checkEntry 0 = .ok (.aload_n 0, 1) := by decide +kernel
theorem dX5_checkEntry_1 : decode cX5_checkEntry 1 = .ok (.iload_n 1, 1) := by decide +kernel
theorem dX5_checkEntry_2 : decode cX5_checkEntry 2 = .ok (.invokevirtual 135, 3) := by decide +kernel
theorem dX5_checkEntry_5 : decode cX5_checkEntry 5 = .ok (.ifCond .ne 13, 3) := by decide +kernel
theorem dX5_checkEntry_8 : decode cX5_checkEntry 8 = .ok (.new 169, 3) := by decide +kernel
theorem dX5_checkEntry_11 : decode cX5_checkEntry 11 = .ok (.dup, 1) := by decide +kernel
theorem dX5_checkEntry_12 : decode cX5_checkEntry 12 = .ok (.ldc 197, 2) := by decide +kernel
theorem dX5_checkEntry_14 : decode cX5_checkEntry 14 = .ok (.invokespecial 173, 3) := by decide +kernel
theorem dX5_checkEntry_17 : decode cX5_checkEntry 17 = .ok (.athrow, 1) := by decide +kernel
theorem dX5_checkEntry_18 : decode cX5_checkEntry 18 = .ok (.return_, 1) := by decide +kernel
theorem dX5_checkArgument_0 : decode cX5_checkArgument 0 = .ok (.iload_n 0, 1) := by decide +kernel
theorem dX5_checkArgument_1 : decode cX5_checkArgument 1 = .ok (.iload_n 1, 1) := by decide +kernel
theorem dX5_checkArgument_2 : decode cX5_checkArgument 2 = .ok (.if_icmp .lt 8, 3) := by decide +kernel
theorem dX5_checkArgument_5 : decode cX5_checkArgument 5 = .ok (.iload_n 0, 1) := by decide +kernel
theorem dX5_checkArgument_6 : decode cX5_checkArgument 6 = .ok (.iload_n 2, 1) := by decide +kernel
theorem dX5_checkArgument_7 : decode cX5_checkArgument 7 = .ok (.if_icmp .le 13, 3) := by decide +kernel
theorem dX5_checkArgument_10 : decode cX5_checkArgument 10 = .ok (.new 199, 3) := by decide +kernel
theorem dX5_checkArgument_13 : decode cX5_checkArgument 13 = .ok (.dup, 1) := by decide +kernel
theorem dX5_checkArgument_14 : decode cX5_checkArgument 14 = .ok (.ldc 201, 2) := by decide +kernel
theorem dX5_checkArgument_16 : decode cX5_checkArgument 16 = .ok (.invokespecial 203, 3) := by decide +kernel
theorem dX5_checkArgument_19 : decode cX5_checkArgument 19 = .ok (.athrow, 1) := by decide +kernel
theorem dX5_checkArgument_20 : decode cX5_checkArgument 20 = .ok (.return_, 1) := by decide +kernel
theorem dX5_checkRoomForChange_0 : decode cX5_checkRoomForChange 0 = .ok (.aload_n 0, 1) := by decide +kernel
theorem dX5_checkRoomForChange_1 : decode cX5_checkRoomForChange 1 = .ok (.getfield 19, 3) := by decide +kernel
theorem dX5_checkRoomForChange_4 : decode cX5_checkRoomForChange 4 = .ok (.getfield 57, 3) := by decide +kernel
theorem dX5_checkRoomForChange_7 : decode cX5_checkRoomForChange 7 = .ok (.bipush 40, 2) := by decide +kernel
theorem dX5_checkRoomForChange_9 : decode cX5_checkRoomForChange 9 = .ok (.if_icmp .lt 13, 3) := by decide +kernel
theorem dX5_checkRoomForChange_12 : decode cX5_checkRoomForChange 12 = .ok (.new 61, 3) := by decide +kernel
theorem dX5_checkRoomForChange_15 : decode cX5_checkRoomForChange 15 = .ok (.dup, 1) := by decide +kernel
theorem dX5_checkRoomForChange_16 : decode cX5_checkRoomForChange 16 = .ok (.ldc 204, 2) := by decide +kernel
theorem dX5_checkRoomForChange_18 : decode cX5_checkRoomForChange 18 = .ok (.invokespecial 65, 3) := by decide +kernel
theorem dX5_checkRoomForChange_21 : decode cX5_checkRoomForChange 21 = .ok (.athrow, 1) := by decide +kernel
theorem dX5_checkRoomForChange_22 : decode cX5_checkRoomForChange 22 = .ok (.return_, 1) := by decide +kernel
theorem dX5_checkRoomForFilter_0 : decode cX5_checkRoomForFilter 0 = .ok (.aload_n 0, 1) := by decide +kernel
theorem dX5_checkRoomForFilter_1 : decode cX5_checkRoomForFilter 1 = .ok (.getfield 45, 3) := by decide +kernel
theorem dX5_checkRoomForFilter_4 : decode cX5_checkRoomForFilter 4 = .ok (.getfield 164, 3) := by decide +kernel
theorem dX5_checkRoomForFilter_7 : decode cX5_checkRoomForFilter 7 = .ok (.bipush 20, 2) := by decide +kernel
theorem dX5_checkRoomForFilter_9 : decode cX5_checkRoomForFilter 9 = .ok (.if_icmp .lt 13, 3) := by decide +kernel
theorem dX5_checkRoomForFilter_12 : decode cX5_checkRoomForFilter 12 = .ok (.new 61, 3) := by decide +kernel
theorem dX5_checkRoomForFilter_15 : decode cX5_checkRoomForFilter 15 = .ok (.dup, 1) := by decide +kernel
theorem dX5_checkRoomForFilter_16 : decode cX5_checkRoomForFilter 16 = .ok (.ldc 206, 2) := by decide +kernel
theorem dX5_checkRoomForFilter_18 : decode cX5_checkRoomForFilter 18 = .ok (.invokespecial 65, 3) := by decide +kernel
theorem dX5_checkRoomForFilter_21 : decode cX5_checkRoomForFilter 21 = .ok (.athrow, 1) := by decide +kernel
theorem dX5_checkRoomForFilter_22 : decode cX5_checkRoomForFilter 22 = .ok (.return_, 1) := by decide +kernel
theorem dX5_checkIsNotFixed_0 : decode cX5_checkIsNotFixed 0 = .ok (.iload_n 0, 1) := by decide +kernel
theorem dX5_checkIsNotFixed_1 : decode cX5_checkIsNotFixed 1 = .ok (.ifCond .eq 8, 3) := by decide +kernel
theorem dX5_checkIsNotFixed_4 : decode cX5_checkIsNotFixed 4 = .ok (.iload_n 0, 1) := by decide +kernel
theorem dX5_checkIsNotFixed_5 : decode cX5_checkIsNotFixed 5 = .ok (.iconst 1, 1) := by decide +kernel
theorem dX5_checkIsNotFixed_6 : decode cX5_checkIsNotFixed 6 = .ok (.if_icmp .ne 13, 3) := by decide +kernel
theorem dX5_checkIsNotFixed_9 : decode cX5_checkIsNotFixed 9 = .ok (.new 61, 3) := by decide +kernel
theorem dX5_checkIsNotFixed_12 : decode cX5_checkIsNotFixed 12 = .ok (.dup, 1) := by decide +kernel
theorem dX5_checkIsNotFixed_13 : decode cX5_checkIsNotFixed 13 = .ok (.ldc 208, 2) := by decide +kernel
theorem dX5_checkIsNotFixed_15 : decode cX5_checkIsNotFixed 15 = .ok (.invokespecial 65, 3) := by decide +kernel
theorem dX5_checkIsNotFixed_18 : decode cX5_checkIsNotFixed 18 = .ok (.athrow, 1) := by decide +kernel
theorem dX5_checkIsNotFixed_19 : decode cX5_checkIsNotFixed 19 = .ok (.return_, 1) := by decide +kernel
set_option maxRecDepth 20000 in
theorem ggX5_checkLabelIsFree_X4_childWithLabelLike : GoodIn wsX5_checkLabelIsFree wsX4_childWithLabelLike := goodIn_r _ [7, 8, 9, 10, 11, 6, 12, 13, 14, 15, 16, 17, 18, 19, 20, 21, 22, 23] (by decide +kernel) (by decide +kernel)
set_option maxRecDepth 20000 in
theorem gX5_checkLabelIsFree_X4_childWithLabelLike : GoodIn wsX5_checkLabelIsFree (wsV RX5 144 RX4 yX4_childWithLabelLike wsX4_childWithLabelLike) := goodIn_app (goodIn_of _ (by decide +kernel)) ggX5_checkLabelIsFree_X4_childWithLabelLike
theorem dX5_checkLabelIsFree_0 : decode cX5_checkLabelIsFree 0 = .ok (.aload_n 0, 1) := by decide +kernel
theorem dX5_checkLabelIsFree_1 : decode cX5_checkLabelIsFree 1 = .ok (.iload_n 1, 1) := by decide +kernel
theorem dX5_checkLabelIsFree_2 : decode cX5_checkLabelIsFree 2 = .ok (.iload_n 2, 1) := by decide +kernel
theorem dX5_checkLabelIsFree_3 : decode cX5_checkLabelIsFree 3 = .ok (.iload_n 3, 1) := by decide +kernel
theorem dX5_checkLabelIsFree_4 : decode cX5_checkLabelIsFree 4 = .ok (.invokevirtual 144, 3) := by decide +kernel
theorem dX5_checkLabelIsFree_7 : decode cX5_checkLabelIsFree 7 = .ok (.iconst (-1), 1) := by decide +kernel
theorem dX5_checkLabelIsFree_8 : decode cX5_checkLabelIsFree 8 = .ok (.if_icmp .eq 13, 3) := by decide +kernel
theorem dX5_checkLabelIsFree_11 : decode cX5_checkLabelIsFree 11 = .ok (.new 61, 3) := by decide +kernel
theorem dX5_checkLabelIsFree_14 : decode cX5_checkLabelIsFree 14 = .ok (.dup, 1) := by decide +kernel
theorem dX5_checkLabelIsFree_15 : decode cX5_checkLabelIsFree 15 = .ok (.ldc 210, 2) := by decide +kernel
theorem dX5_checkLabelIsFree_17 : decode cX5_checkLabelIsFree 17 = .ok (.invokespecial 65, 3) := by decide +kernel
theorem dX5_checkLabelIsFree_20 : decode cX5_checkLabelIsFree 20 = .ok (.athrow, 1) := by decide +kernel
theorem dX5_checkLabelIsFree_21 : decode cX5_checkLabelIsFree 21 = .ok (.return_, 1) := by decide +kernel
theorem dX5_at_0 : decode cX5_at 0 = .ok (.iload_n 1, 1) := by decide +kernel
theorem dX5_at_1 : decode cX5_at 1 = .ok (.ifCond .lt 15, 3) := by decide +kernel
theorem dX5_at_4 : decode cX5_at 4 = .ok (.iload_n 1, 1) := by decide +kernel
theorem dX5_at_5 : decode cX5_at 5 = .ok (.aload_n 0, 1) := by decide +kernel
theorem dX5_at_6 : decode cX5_at 6 = .ok (.arraylength, 1) := by decide +kernel
theorem dX5_at_7 : decode cX5_at 7 = .ok (.if_icmp .ge 9, 3) := by decide +kernel
theorem dX5_at_10 : decode cX5_at 10 = .ok (.aload_n 0, 1) := by decide +kernel
theorem dX5_at_11 : decode cX5_at 11 = .ok (.iload_n 1, 1) := by decide +kernel
theorem dX5_at_12 : decode cX5_at 12 = .ok (.iaload, 1) := by decide +kernel
theorem dX5_at_13 : decode cX5_at 13 = .ok (.goto 4, 3) := by decide +kernel
theorem dX5_at_16 : decode cX5_at 16 = .ok (.iconst (-1), 1) := by decide +kernel
theorem dX5_at_17 : decode cX5_at 17 = .ok (.ireturn, 1) := by decide +kernel
theorem dX5_put_0 : decode cX5_put 0 = .ok (.iload_n 1, 1) := by decide +kernel
theorem dX5_put_1 : decode cX5_put 1 = .ok (.ifCond .lt 13, 3) := by decide +kernel
theorem dX5_put_4 : decode cX5_put 4 = .ok (.iload_n 1, 1) := by decide +kernel
theorem dX5_put_5 : decode cX5_put 5 = .ok (.aload_n 0, 1) := by decide +kernel
theorem dX5_put_6 : decode cX5_put 6 = .ok (.arraylength, 1) := by decide +kernel
theorem dX5_put_7 : decode cX5_put 7 = .ok (.if_icmp .ge 7, 3) := by decide +kernel
theorem dX5_put_10 : decode cX5_put 10 = .ok (.aload_n 0, 1) := by decide +kernel
theorem dX5_put_11 : decode cX5_put 11 = .ok (.iload_n 1, 1) := by decide +kernel
theorem dX5_put_12 : decode cX5_put 12 = .ok (.iload_n 2, 1) := by decide +kernel
theorem dX5_put_13 : decode cX5_put 13 = .ok (.iastore, 1) := by decide +kernel
theorem dX5_put_14 : decode cX5_put 14 = .ok (.return_, 1) := by decide +kernel
