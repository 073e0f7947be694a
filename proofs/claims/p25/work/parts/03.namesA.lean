set_option maxRecDepth 20000 in
theorem ggX0_init_J7_fill_53178 : GoodIn wsX0_init wsJ7_fill_53178 := goodIn_r _ [10] (by decide +kernel) (by decide +kernel)
set_option maxRecDepth 20000 in
theorem gX0_init_J7_fill_53178 : GoodIn wsX0_init (va_wsS RX0 18 yJ7_fill_53178 wsJ7_fill_53178) := goodIn_app (goodIn_of _ (by decide +kernel)) ggX0_init_J7_fill_53178
theorem dX0_init_0 : decode cX0_init 0 = .ok (.aload_n 0, 1) := by decide +kernel
theorem dX0_init_1 : decode cX0_init 1 = .ok (.invokespecial 3, 3) := by decide +kernel
theorem dX0_init_4 : decode cX0_init 4 = .ok (.aload_n 0, 1) := by decide +kernel
theorem dX0_init_5 : decode cX0_init 5 = .ok (.iconst 3, 1) := by decide +kernel
theorem dX0_init_6 : decode cX0_init 6 = .ok (.newarray .int, 2) := by decide +kernel
theorem dX0_init_8 : decode cX0_init 8 = .ok (.putfield 9, 3) := by decide +kernel
theorem dX0_init_11 : decode cX0_init 11 = .ok (.aload_n 0, 1) := by decide +kernel
theorem dX0_init_12 : decode cX0_init 12 = .ok (.iconst 3, 1) := by decide +kernel
theorem dX0_init_13 : decode cX0_init 13 = .ok (.newarray .int, 2) := by decide +kernel
theorem dX0_init_15 : decode cX0_init 15 = .ok (.putfield 15, 3) := by decide +kernel
theorem dX0_init_18 : decode cX0_init 18 = .ok (.aload_n 0, 1) := by decide +kernel
theorem dX0_init_19 : decode cX0_init 19 = .ok (.getfield 15, 3) := by decide +kernel
theorem dX0_init_22 : decode cX0_init 22 = .ok (.bipush 15, 2) := by decide +kernel
theorem dX0_init_24 : decode cX0_init 24 = .ok (.invokestatic 18, 3) := by decide +kernel
theorem dX0_init_27 : decode cX0_init 27 = .ok (.return_, 1) := by decide +kernel
set_option maxRecDepth 20000 in
theorem ggX0_define_X5_put : GoodIn wsX0_define wsX5_put := goodIn_r _ [5] (by decide +kernel) (by decide +kernel)
set_option maxRecDepth 20000 in
theorem gX0_define_X5_put_n24 : GoodIn wsX0_define (wsX5_put) := ggX0_define_X5_put
theorem dX0_define_0 : decode cX0_define 0 = .ok (.aload_n 0, 1) := by decide +kernel
theorem dX0_define_1 : decode cX0_define 1 = .ok (.getfield 9, 3) := by decide +kernel
theorem dX0_define_4 : decode cX0_define 4 = .ok (.iload_n 1, 1) := by decide +kernel
theorem dX0_define_5 : decode cX0_define 5 = .ok (.iload_n 2, 1) := by decide +kernel
theorem dX0_define_6 : decode cX0_define 6 = .ok (.invokestatic 24, 3) := by decide +kernel
theorem dX0_define_9 : decode cX0_define 9 = .ok (.aload_n 0, 1) := by decide +kernel
theorem dX0_define_10 : decode cX0_define 10 = .ok (.getfield 15, 3) := by decide +kernel
theorem dX0_define_13 : decode cX0_define 13 = .ok (.iload_n 1, 1) := by decide +kernel
theorem dX0_define_14 : decode cX0_define 14 = .ok (.iload_n 3, 1) := by decide +kernel
theorem dX0_define_15 : decode cX0_define 15 = .ok (.iload_n 2, 1) := by decide +kernel
theorem dX0_define_16 : decode cX0_define 16 = .ok (.ior, 1) := by decide +kernel
theorem dX0_define_17 : decode cX0_define 17 = .ok (.invokestatic 24, 3) := by decide +kernel
theorem dX0_define_20 : decode cX0_define 20 = .ok (.return_, 1) := by decide +kernel
set_option maxRecDepth 20000 in
theorem ggX0_needs_X0_hasBit : GoodIn wsX0_needs wsX0_hasBit := goodIn_r _ [5] (by decide +kernel) (by decide +kernel)
set_option maxRecDepth 20000 in
theorem gX0_needs_X0_hasBit : GoodIn wsX0_needs (va_wsS RX0 28 yX0_hasBit wsX0_hasBit) := goodIn_app (goodIn_of _ (by decide +kernel)) ggX0_needs_X0_hasBit
theorem dX0_needs_0 : decode cX0_needs 0 = .ok (.iload_n 1, 1) := by decide +kernel
theorem dX0_needs_1 : decode cX0_needs 1 = .ok (.ifCond .lt 25, 3) := by decide +kernel
theorem dX0_needs_4 : decode cX0_needs 4 = .ok (.iload_n 1, 1) := by decide +kernel
theorem dX0_needs_5 : decode cX0_needs 5 = .ok (.iconst 3, 1) := by decide +kernel
theorem dX0_needs_6 : decode cX0_needs 6 = .ok (.if_icmp .ge 20, 3) := by decide +kernel
theorem dX0_needs_9 : decode cX0_needs 9 = .ok (.aload_n 0, 1) := by decide +kernel
theorem dX0_needs_10 : decode cX0_needs 10 = .ok (.getfield 9, 3) := by decide +kernel
theorem dX0_needs_13 : decode cX0_needs 13 = .ok (.iload_n 1, 1) := by decide +kernel
theorem dX0_needs_14 : decode cX0_needs 14 = .ok (.iaload, 1) := by decide +kernel
theorem dX0_needs_15 : decode cX0_needs 15 = .ok (.iload_n 2, 1) := by decide +kernel
theorem dX0_needs_16 : decode cX0_needs 16 = .ok (.invokestatic 28, 3) := by decide +kernel
theorem dX0_needs_19 : decode cX0_needs 19 = .ok (.ifCond .eq 7, 3) := by decide +kernel
theorem dX0_needs_22 : decode cX0_needs 22 = .ok (.iconst 1, 1) := by decide +kernel
theorem dX0_needs_23 : decode cX0_needs 23 = .ok (.goto 4, 3) := by decide +kernel
theorem dX0_needs_26 : decode cX0_needs 26 = .ok (.iconst 0, 1) := by decide +kernel
theorem dX0_needs_27 : decode cX0_needs 27 = .ok (.ireturn, 1) := by decide +kernel
set_option maxRecDepth 20000 in
theorem ggX0_allows_X0_hasBit : GoodIn wsX0_allows wsX0_hasBit := goodIn_r _ [5] (by decide +kernel) (by decide +kernel)
set_option maxRecDepth 20000 in
theorem gX0_allows_X0_hasBit : GoodIn wsX0_allows (va_wsS RX0 28 yX0_hasBit wsX0_hasBit) := goodIn_app (goodIn_of _ (by decide +kernel)) ggX0_allows_X0_hasBit
theorem dX0_allows_0 : decode cX0_allows 0 = .ok (.iload_n 1, 1) := by decide +kernel
theorem dX0_allows_1 : decode cX0_allows 1 = .ok (.ifCond .lt 25, 3) := by decide +kernel
theorem dX0_allows_4 : decode cX0_allows 4 = .ok (.iload_n 1, 1) := by decide +kernel
theorem dX0_allows_5 : decode cX0_allows 5 = .ok (.iconst 3, 1) := by decide +kernel
theorem dX0_allows_6 : decode cX0_allows 6 = .ok (.if_icmp .ge 20, 3) := by decide +kernel
theorem dX0_allows_9 : decode cX0_allows 9 = .ok (.aload_n 0, 1) := by decide +kernel
theorem dX0_allows_10 : decode cX0_allows 10 = .ok (.getfield 15, 3) := by decide +kernel
theorem dX0_allows_13 : decode cX0_allows 13 = .ok (.iload_n 1, 1) := by decide +kernel
theorem dX0_allows_14 : decode cX0_allows 14 = .ok (.iaload, 1) := by decide +kernel
theorem dX0_allows_15 : decode cX0_allows 15 = .ok (.iload_n 2, 1) := by decide +kernel
theorem dX0_allows_16 : decode cX0_allows 16 = .ok (.invokestatic 28, 3) := by decide +kernel
theorem dX0_allows_19 : decode cX0_allows 19 = .ok (.ifCond .eq 7, 3) := by decide +kernel
theorem dX0_allows_22 : decode cX0_allows 22 = .ok (.iconst 1, 1) := by decide +kernel
theorem dX0_allows_23 : decode cX0_allows 23 = .ok (.goto 4, 3) := by decide +kernel
theorem dX0_allows_26 : decode cX0_allows 26 = .ok (.iconst 0, 1) := by decide +kernel
theorem dX0_allows_27 : decode cX0_allows 27 = .ok (.ireturn, 1) := by decide +kernel
theorem dX0_hasBit_0 : decode cX0_hasBit 0 = .ok (.iload_n 0, 1) := by decide +kernel
theorem dX0_hasBit_1 : decode cX0_hasBit 1 = .ok (.iload_n 1, 1) := by decide +kernel
theorem dX0_hasBit_2 : decode cX0_hasBit 2 = .ok (.ishr, 1) := by decide +kernel
theorem dX0_hasBit_3 : decode cX0_hasBit 3 = .ok (.iconst 1, 1) := by decide +kernel
theorem dX0_hasBit_4 : decode cX0_hasBit 4 = .ok (.iand, 1) := by decide +kernel
theorem dX0_hasBit_5 : decode cX0_hasBit 5 = .ok (.iconst 1, 1) := by decide +kernel
theorem dX0_hasBit_6 : decode cX0_hasBit 6 = .ok (.if_icmp .ne 7, 3) := by decide +kernel
theorem dX0_hasBit_9 : decode cX0_hasBit 9 = .ok (.iconst 1, 1) := by decide +kernel
theorem dX0_hasBit_10 : decode cX0_hasBit 10 = .ok (.goto 4, 3) := by decide +kernel
theorem dX0_hasBit_13 : decode cX0_hasBit 13 = .ok (.iconst 0, 1) := by decide +kernel
theorem dX0_hasBit_14 : decode cX0_hasBit 14 = .ok (.ireturn, 1) := by decide +kernel
theorem dX1_init_0 : decode cX1_init 0 = .ok (.aload_n 0, 1) := by decide +kernel
theorem dX1_init_1 : decode cX1_init 1 = .ok (.invokespecial 3, 3) := by decide +kernel
theorem dX1_init_4 : decode cX1_init 4 = .ok (.aload_n 0, 1) := by decide +kernel
theorem dX1_init_5 : decode cX1_init 5 = .ok (.bipush 20, 2) := by decide +kernel
theorem dX1_init_7 : decode cX1_init 7 = .ok (.newarray .int, 2) := by decide +kernel
theorem dX1_init_9 : decode cX1_init 9 = .ok (.putfield 9, 3) := by decide +kernel
theorem dX1_init_12 : decode cX1_init 12 = .ok (.aload_n 0, 1) := by decide +kernel
theorem dX1_init_13 : decode cX1_init 13 = .ok (.bipush 20, 2) := by decide +kernel
theorem dX1_init_15 : decode cX1_init 15 = .ok (.newarray .int, 2) := by decide +kernel
theorem dX1_init_17 : decode cX1_init 17 = .ok (.putfield 15, 3) := by decide +kernel
theorem dX1_init_20 : decode cX1_init 20 = .ok (.aload_n 0, 1) := by decide +kernel
theorem dX1_init_21 : decode cX1_init 21 = .ok (.bipush 20, 2) := by decide +kernel
theorem dX1_init_23 : decode cX1_init 23 = .ok (.newarray .int, 2) := by decide +kernel
theorem dX1_init_25 : decode cX1_init 25 = .ok (.putfield 18, 3) := by decide +kernel
theorem dX1_init_28 : decode cX1_init 28 = .ok (.aload_n 0, 1) := by decide +kernel
theorem dX1_init_29 : decode cX1_init 29 = .ok (.bipush 20, 2) := by decide +kernel
theorem dX1_init_31 : decode cX1_init 31 = .ok (.newarray .int, 2) := by decide +kernel
theorem dX1_init_33 : decode cX1_init 33 = .ok (.putfield 21, 3) := by decide +kernel
theorem dX1_init_36 : decode cX1_init 36 = .ok (.return_, 1) := by decide +kernel
set_option maxRecDepth 20000 in
theorem ggX1_append_X5_put : GoodIn wsX1_append wsX5_put := goodIn_r _ [7] (by decide +kernel) (by decide +kernel)
set_option maxRecDepth 20000 in
theorem gX1_append_X5_put_n28 : GoodIn wsX1_append (wsX5_put) := ggX1_append_X5_put
theorem dX1_append_0 : decode cX1_append 0 = .ok (.aload_n 0, 1) := by decide +kernel
theorem dX1_append_1 : decode cX1_append 1 = .ok (.getfield 24, 3) := by decide +kernel
theorem dX1_append_4 : decode cX1_append 4 = .ok (.istore 4, 2) := by decide +kernel
theorem dX1_append_6 : decode cX1_append 6 = .ok (.aload_n 0, 1) := by decide +kernel
theorem dX1_append_7 : decode cX1_append 7 = .ok (.getfield 9, 3) := by decide +kernel
theorem dX1_append_10 : decode cX1_append 10 = .ok (.iload 4, 2) := by decide +kernel
theorem dX1_append_12 : decode cX1_append 12 = .ok (.iload_n 1, 1) := by decide +kernel
theorem dX1_append_13 : decode cX1_append 13 = .ok (.invokestatic 28, 3) := by decide +kernel
theorem dX1_append_16 : decode cX1_append 16 = .ok (.aload_n 0, 1) := by decide +kernel
theorem dX1_append_17 : decode cX1_append 17 = .ok (.getfield 15, 3) := by decide +kernel
theorem dX1_append_20 : decode cX1_append 20 = .ok (.iload 4, 2) := by decide +kernel
theorem dX1_append_22 : decode cX1_append 22 = .ok (.iload_n 2, 1) := by decide +kernel
theorem dX1_append_23 : decode cX1_append 23 = .ok (.invokestatic 28, 3) := by decide +kernel
theorem dX1_append_26 : decode cX1_append 26 = .ok (.aload_n 0, 1) := by decide +kernel
theorem dX1_append_27 : decode cX1_append 27 = .ok (.getfield 18, 3) := by decide +kernel
theorem dX1_append_30 : decode cX1_append 30 = .ok (.iload 4, 2) := by decide +kernel
theorem dX1_append_32 : decode cX1_append 32 = .ok (.iload_n 3, 1) := by decide +kernel
theorem dX1_append_33 : decode cX1_append 33 = .ok (.invokestatic 28, 3) := by decide +kernel
theorem dX1_append_36 : decode cX1_append 36 = .ok (.aload_n 0, 1) := by decide +kernel
theorem dX1_append_37 : decode cX1_append 37 = .ok (.dup, 1) := by decide +kernel
theorem dX1_append_38 : decode cX1_append 38 = .ok (.getfield 24, 3) := by decide +kernel
theorem dX1_append_41 : decode cX1_append 41 = .ok (.iconst 1, 1) := by decide +kernel
theorem dX1_append_42 : decode cX1_append 42 = .ok (.iadd, 1) := by decide +kernel
theorem dX1_append_43 : decode cX1_append 43 = .ok (.putfield 24, 3) := by decide +kernel
theorem dX1_append_46 : decode cX1_append 46 = .ok (.iload 4, 2) := by decide +kernel
theorem dX1_append_48 : decode cX1_append 48 = .ok (.ireturn, 1) := by decide +kernel
set_option maxRecDepth 20000 in
theorem ggX1_truthFor_X1_truthOfTest : GoodIn wsX1_truthFor wsX1_truthOfTest := goodIn_r _ [8, 9, 10, 11, 12, 13, 14, 15, 16, 17, 18, 19, 20, 21, 22, 23, 24, 25, 26, 27, 28, 29, 30, 31, 32, 47, 48, 49, 50, 51, 52, 53, 54, 55, 56, 57, 58, 59] (by decide +kernel) (by decide +kernel)
set_option maxRecDepth 20000 in
theorem gX1_truthFor_X1_truthOfTest : GoodIn wsX1_truthFor (va_wsS RX1 32 yX1_truthOfTest wsX1_truthOfTest) := goodIn_app (goodIn_of _ (by decide +kernel)) ggX1_truthFor_X1_truthOfTest
set_option maxRecDepth 20000 in
theorem ggX1_truthFor_X5_at : GoodIn wsX1_truthFor wsX5_at := goodIn_r _ [18] (by decide +kernel) (by decide +kernel)
set_option maxRecDepth 20000 in
theorem gX1_truthFor_X5_at_n36 : GoodIn wsX1_truthFor (wsX5_at) := ggX1_truthFor_X5_at
set_option maxRecDepth 20000 in
theorem ggX1_truthFor_X1_truthOfJoin : GoodIn wsX1_truthFor wsX1_truthOfJoin := goodIn_r _ [35, 36, 37, 7, 38, 39, 40, 41] (by decide +kernel) (by decide +kernel)
set_option maxRecDepth 20000 in
theorem gX1_truthFor_X1_truthOfJoin : GoodIn wsX1_truthFor (va_wsS RX1 40 yX1_truthOfJoin wsX1_truthOfJoin) := goodIn_app (goodIn_of _ (by decide +kernel)) ggX1_truthFor_X1_truthOfJoin
theorem dX1_truthFor_0 : decode cX1_truthFor 0 = .ok (.iconst 0, 1) := by decide +kernel
theorem dX1_truthFor_1 : decode cX1_truthFor 1 = .ok (.istore 4, 2) := by decide +kernel
theorem dX1_truthFor_3 : decode cX1_truthFor 3 = .ok (.iload 4, 2) := by decide +kernel
theorem dX1_truthFor_5 : decode cX1_truthFor 5 = .ok (.iload_n 1, 1) := by decide +kernel
theorem dX1_truthFor_6 : decode cX1_truthFor 6 = .ok (.if_icmp .gt 93, 3) := by decide +kernel
theorem dX1_truthFor_9 : decode cX1_truthFor 9 = .ok (.iload 4, 2) := by decide +kernel
theorem dX1_truthFor_11 : decode cX1_truthFor 11 = .ok (.bipush 20, 2) := by decide +kernel
theorem dX1_truthFor_13 : decode cX1_truthFor 13 = .ok (.if_icmp .ge 86, 3) := by decide +kernel
theorem dX1_truthFor_16 : decode cX1_truthFor 16 = .ok (.aload_n 0, 1) := by decide +kernel
theorem dX1_truthFor_17 : decode cX1_truthFor 17 = .ok (.getfield 9, 3) := by decide +kernel
theorem dX1_truthFor_20 : decode cX1_truthFor 20 = .ok (.iload 4, 2) := by decide +kernel
theorem dX1_truthFor_22 : decode cX1_truthFor 22 = .ok (.iaload, 1) := by decide +kernel
theorem dX1_truthFor_23 : decode cX1_truthFor 23 = .ok (.istore 5, 2) := by decide +kernel
theorem dX1_truthFor_25 : decode cX1_truthFor 25 = .ok (.aload_n 0, 1) := by decide +kernel
theorem dX1_truthFor_26 : decode cX1_truthFor 26 = .ok (.getfield 15, 3) := by decide +kernel
theorem dX1_truthFor_29 : decode cX1_truthFor 29 = .ok (.iload 4, 2) := by decide +kernel
theorem dX1_truthFor_31 : decode cX1_truthFor 31 = .ok (.iaload, 1) := by decide +kernel
theorem dX1_truthFor_32 : decode cX1_truthFor 32 = .ok (.istore 6, 2) := by decide +kernel
theorem dX1_truthFor_34 : decode cX1_truthFor 34 = .ok (.aload_n 0, 1) := by decide +kernel
theorem dX1_truthFor_35 : decode cX1_truthFor 35 = .ok (.getfield 18, 3) := by decide +kernel
theorem dX1_truthFor_38 : decode cX1_truthFor 38 = .ok (.iload 4, 2) := by decide +kernel
theorem dX1_truthFor_40 : decode cX1_truthFor 40 = .ok (.iaload, 1) := by decide +kernel
theorem dX1_truthFor_41 : decode cX1_truthFor 41 = .ok (.istore 7, 2) := by decide +kernel
theorem dX1_truthFor_43 : decode cX1_truthFor 43 = .ok (.aload_n 0, 1) := by decide +kernel
theorem dX1_truthFor_44 : decode cX1_truthFor 44 = .ok (.getfield 21, 3) := by decide +kernel
theorem dX1_truthFor_47 : decode cX1_truthFor 47 = .ok (.iload 4, 2) := by decide +kernel
theorem dX1_truthFor_49 : decode cX1_truthFor 49 = .ok (.iload 5, 2) := by decide +kernel
theorem dX1_truthFor_51 : decode cX1_truthFor 51 = .ok (.iconst 3, 1) := by decide +kernel
theorem dX1_truthFor_52 : decode cX1_truthFor 52 = .ok (.if_icmp .ge 17, 3) := by decide +kernel
theorem dX1_truthFor_55 : decode cX1_truthFor 55 = .ok (.iload 5, 2) := by decide +kernel
theorem dX1_truthFor_57 : decode cX1_truthFor 57 = .ok (.iload 6, 2) := by decide +kernel
theorem dX1_truthFor_59 : decode cX1_truthFor 59 = .ok (.iload 7, 2) := by decide +kernel
theorem dX1_truthFor_61 : decode cX1_truthFor 61 = .ok (.aload_n 2, 1) := by decide +kernel
theorem dX1_truthFor_62 : decode cX1_truthFor 62 = .ok (.iload_n 3, 1) := by decide +kernel
theorem dX1_truthFor_63 : decode cX1_truthFor 63 = .ok (.invokestatic 32, 3) := by decide +kernel
theorem dX1_truthFor_66 : decode cX1_truthFor 66 = .ok (.goto 26, 3) := by decide +kernel
theorem dX1_truthFor_69 : decode cX1_truthFor 69 = .ok (.iload 5, 2) := by decide +kernel
theorem dX1_truthFor_71 : decode cX1_truthFor 71 = .ok (.aload_n 0, 1) := by decide +kernel
theorem dX1_truthFor_72 : decode cX1_truthFor 72 = .ok (.getfield 21, 3) := by decide +kernel
theorem dX1_truthFor_75 : decode cX1_truthFor 75 = .ok (.iload 6, 2) := by decide +kernel
theorem dX1_truthFor_77 : decode cX1_truthFor 77 = .ok (.invokestatic 36, 3) := by decide +kernel
theorem dX1_truthFor_80 : decode cX1_truthFor 80 = .ok (.aload_n 0, 1) := by decide +kernel
theorem dX1_truthFor_81 : decode cX1_truthFor 81 = .ok (.getfield 21, 3) := by decide +kernel
theorem dX1_truthFor_84 : decode cX1_truthFor 84 = .ok (.iload 7, 2) := by decide +kernel
theorem dX1_truthFor_86 : decode cX1_truthFor 86 = .ok (.invokestatic 36, 3) := by decide +kernel
theorem dX1_truthFor_89 : decode cX1_truthFor 89 = .ok (.invokestatic 40, 3) := by decide +kernel
theorem dX1_truthFor_92 : decode cX1_truthFor 92 = .ok (.iastore, 1) := by decide +kernel
theorem dX1_truthFor_93 : decode cX1_truthFor 93 = .ok (.iinc 4 1, 3) := by decide +kernel
theorem dX1_truthFor_96 : decode cX1_truthFor 96 = .ok (.goto (-93), 3) := by decide +kernel
theorem dX1_truthFor_99 : decode cX1_truthFor 99 = .ok (.aload_n 0, 1) := by decide +kernel
theorem dX1_truthFor_100 : decode cX1_truthFor 100 = .ok (.getfield 21, 3) := by decide +kernel
theorem dX1_truthFor_103 : decode cX1_truthFor 103 = .ok (.iload_n 1, 1) := by decide +kernel
theorem dX1_truthFor_104 : decode cX1_truthFor 104 = .ok (.invokestatic 36, 3) := by decide +kernel
theorem dX1_truthFor_107 : decode cX1_truthFor 107 = .ok (.ireturn, 1) := by decide +kernel
set_option maxRecDepth 20000 in
theorem ggX1_truthOfTest_X4_mayHold : GoodIn wsX1_truthOfTest wsX4_mayHold := goodIn_r _ [5, 6, 7, 8, 9, 10, 11, 12, 13, 14, 15, 16, 17, 18, 19, 25, 26, 27, 28, 29, 30, 31, 32, 33, 34, 35, 36, 37] (by decide +kernel) (by decide +kernel)
set_option maxRecDepth 20000 in
theorem gX1_truthOfTest_X4_mayHold : GoodIn wsX1_truthOfTest (wsV RX1 44 RX4 yX4_mayHold wsX4_mayHold) := goodIn_app (goodIn_of _ (by decide +kernel)) ggX1_truthOfTest_X4_mayHold
set_option maxRecDepth 20000 in
theorem ggX1_truthOfTest_X4_valueAt : GoodIn wsX1_truthOfTest wsX4_valueAt := goodIn_r _ [23, 24, 8, 9, 10, 25, 26, 27, 28, 29, 30, 31, 32, 33, 34, 35] (by decide +kernel) (by decide +kernel)
set_option maxRecDepth 20000 in
theorem gX1_truthOfTest_X4_valueAt : GoodIn wsX1_truthOfTest (wsV RX1 50 RX4 yX4_valueAt wsX4_valueAt) := goodIn_app (goodIn_of _ (by decide +kernel)) ggX1_truthOfTest_X4_valueAt
theorem dX1_truthOfTest_0 : decode cX1_truthOfTest 0 = .ok (.aload_n 3, 1) := by decide +kernel
theorem dX1_truthOfTest_1 : decode cX1_truthOfTest 1 = .ok (.iload 4, 2) := by decide +kernel
theorem dX1_truthOfTest_3 : decode cX1_truthOfTest 3 = .ok (.iload_n 1, 1) := by decide +kernel
theorem dX1_truthOfTest_4 : decode cX1_truthOfTest 4 = .ok (.invokevirtual 44, 3) := by decide +kernel
theorem dX1_truthOfTest_7 : decode cX1_truthOfTest 7 = .ok (.ifCond .ne 5, 3) := by decide +kernel
theorem dX1_truthOfTest_10 : decode cX1_truthOfTest 10 = .ok (.iconst (-1), 1) := by decide +kernel
theorem dX1_truthOfTest_11 : decode cX1_truthOfTest 11 = .ok (.ireturn, 1) := by decide +kernel
theorem dX1_truthOfTest_12 : decode cX1_truthOfTest 12 = .ok (.aload_n 3, 1) := by decide +kernel
theorem dX1_truthOfTest_13 : decode cX1_truthOfTest 13 = .ok (.iload 4, 2) := by decide +kernel
theorem dX1_truthOfTest_15 : decode cX1_truthOfTest 15 = .ok (.iload_n 1, 1) := by decide +kernel
theorem dX1_truthOfTest_16 : decode cX1_truthOfTest 16 = .ok (.invokevirtual 50, 3) := by decide +kernel
theorem dX1_truthOfTest_19 : decode cX1_truthOfTest 19 = .ok (.istore 5, 2) := by decide +kernel
theorem dX1_truthOfTest_21 : decode cX1_truthOfTest 21 = .ok (.iload 5, 2) := by decide +kernel
theorem dX1_truthOfTest_23 : decode cX1_truthOfTest 23 = .ok (.iconst (-1), 1) := by decide +kernel
theorem dX1_truthOfTest_24 : decode cX1_truthOfTest 24 = .ok (.if_icmp .ne 5, 3) := by decide +kernel
theorem dX1_truthOfTest_27 : decode cX1_truthOfTest 27 = .ok (.iconst 0, 1) := by decide +kernel
theorem dX1_truthOfTest_28 : decode cX1_truthOfTest 28 = .ok (.ireturn, 1) := by decide +kernel
theorem dX1_truthOfTest_29 : decode cX1_truthOfTest 29 = .ok (.iload_n 0, 1) := by decide +kernel
theorem dX1_truthOfTest_30 : decode cX1_truthOfTest 30 = .ok (.tableswitch 52 0 2 #[26, 28, 40], 26) := by decide +kernel
theorem dX1_truthOfTest_56 : decode cX1_truthOfTest 56 = .ok (.iconst 1, 1) := by decide +kernel
theorem dX1_truthOfTest_57 : decode cX1_truthOfTest 57 = .ok (.ireturn, 1) := by decide +kernel
theorem dX1_truthOfTest_58 : decode cX1_truthOfTest 58 = .ok (.iload 5, 2) := by decide +kernel
theorem dX1_truthOfTest_60 : decode cX1_truthOfTest 60 = .ok (.iload_n 2, 1) := by decide +kernel
theorem dX1_truthOfTest_61 : decode cX1_truthOfTest 61 = .ok (.if_icmp .ne 7, 3) := by decide +kernel
theorem dX1_truthOfTest_64 : decode cX1_truthOfTest 64 = .ok (.iconst 1, 1) := by decide +kernel
theorem dX1_truthOfTest_65 : decode cX1_truthOfTest 65 = .ok (.goto 4, 3) := by decide +kernel
theorem dX1_truthOfTest_68 : decode cX1_truthOfTest 68 = .ok (.iconst 0, 1) := by decide +kernel
theorem dX1_truthOfTest_69 : decode cX1_truthOfTest 69 = .ok (.ireturn, 1) := by decide +kernel
theorem dX1_truthOfTest_70 : decode cX1_truthOfTest 70 = .ok (.iload 5, 2) := by decide +kernel
theorem dX1_truthOfTest_72 : decode cX1_truthOfTest 72 = .ok (.iload_n 2, 1) := by decide +kernel
theorem dX1_truthOfTest_73 : decode cX1_truthOfTest 73 = .ok (.if_icmp .lt 7, 3) := by decide +kernel
theorem dX1_truthOfTest_76 : decode cX1_truthOfTest 76 = .ok (.iconst 1, 1) := by decide +kernel
theorem dX1_truthOfTest_77 : decode cX1_truthOfTest 77 = .ok (.goto 4, 3) := by decide +kernel
theorem dX1_truthOfTest_80 : decode cX1_truthOfTest 80 = .ok (.iconst 0, 1) := by decide +kernel
theorem dX1_truthOfTest_81 : decode cX1_truthOfTest 81 = .ok (.ireturn, 1) := by decide +kernel
theorem dX1_truthOfTest_82 : decode cX1_truthOfTest 82 = .ok (.iconst (-1), 1) := by decide +kernel
theorem dX1_truthOfTest_83 : decode cX1_truthOfTest 83 = .ok (.ireturn, 1) := by decide +kernel
set_option maxRecDepth 20000 in
theorem ggX1_truthOfJoin_X1_both : GoodIn wsX1_truthOfJoin wsX1_both := goodIn_r _ [4] (by decide +kernel) (by decide +kernel)
set_option maxRecDepth 20000 in
theorem gX1_truthOfJoin_X1_both : GoodIn wsX1_truthOfJoin (va_wsS RX1 54 yX1_both wsX1_both) := goodIn_app (goodIn_of _ (by decide +kernel)) ggX1_truthOfJoin_X1_both
set_option maxRecDepth 20000 in
theorem ggX1_truthOfJoin_X1_opposite : GoodIn wsX1_truthOfJoin wsX1_opposite := goodIn_r _ [7] (by decide +kernel) (by decide +kernel)
set_option maxRecDepth 20000 in
theorem gX1_truthOfJoin_X1_opposite : GoodIn wsX1_truthOfJoin (va_wsS RX1 57 yX1_opposite wsX1_opposite) := goodIn_app (goodIn_of _ (by decide +kernel)) ggX1_truthOfJoin_X1_opposite
theorem dX1_truthOfJoin_0 : decode cX1_truthOfJoin 0 = .ok (.iload_n 0, 1) := by decide +kernel
theorem dX1_truthOfJoin_1 : decode cX1_truthOfJoin 1 = .ok (.tableswitch 53 3 5 #[27, 33, 48], 27) := by decide +kernel
theorem dX1_truthOfJoin_28 : decode cX1_truthOfJoin 28 = .ok (.iload_n 1, 1) := by decide +kernel
theorem dX1_truthOfJoin_29 : decode cX1_truthOfJoin 29 = .ok (.iload_n 2, 1) := by decide +kernel
theorem dX1_truthOfJoin_30 : decode cX1_truthOfJoin 30 = .ok (.invokestatic 54, 3) := by decide +kernel
theorem dX1_truthOfJoin_33 : decode cX1_truthOfJoin 33 = .ok (.ireturn, 1) := by decide +kernel
theorem dX1_truthOfJoin_34 : decode cX1_truthOfJoin 34 = .ok (.iload_n 1, 1) := by decide +kernel
theorem dX1_truthOfJoin_35 : decode cX1_truthOfJoin 35 = .ok (.invokestatic 57, 3) := by decide +kernel
theorem dX1_truthOfJoin_38 : decode cX1_truthOfJoin 38 = .ok (.iload_n 2, 1) := by decide +kernel
theorem dX1_truthOfJoin_39 : decode cX1_truthOfJoin 39 = .ok (.invokestatic 57, 3) := by decide +kernel
theorem dX1_truthOfJoin_42 : decode cX1_truthOfJoin 42 = .ok (.invokestatic 54, 3) := by decide +kernel
theorem dX1_truthOfJoin_45 : decode cX1_truthOfJoin 45 = .ok (.invokestatic 57, 3) := by decide +kernel
theorem dX1_truthOfJoin_48 : decode cX1_truthOfJoin 48 = .ok (.ireturn, 1) := by decide +kernel
theorem dX1_truthOfJoin_49 : decode cX1_truthOfJoin 49 = .ok (.iload_n 1, 1) := by decide +kernel
theorem dX1_truthOfJoin_50 : decode cX1_truthOfJoin 50 = .ok (.invokestatic 57, 3) := by decide +kernel
theorem dX1_truthOfJoin_53 : decode cX1_truthOfJoin 53 = .ok (.ireturn, 1) := by decide +kernel
theorem dX1_truthOfJoin_54 : decode cX1_truthOfJoin 54 = .ok (.iconst (-1), 1) := by decide +kernel
theorem dX1_truthOfJoin_55 : decode cX1_truthOfJoin 55 = .ok (.ireturn, 1) := by decide +kernel
theorem dX1_both_0 : decode cX1_both 0 = .ok (.iload_n 0, 1) := by decide +kernel
theorem dX1_both_1 : decode cX1_both 1 = .ok (.ifCond .eq 7, 3) := by decide +kernel
theorem dX1_both_4 : decode cX1_both 4 = .ok (.iload_n 1, 1) := by decide +kernel
theorem dX1_both_5 : decode cX1_both 5 = .ok (.ifCond .ne 5, 3) := by decide +kernel
theorem dX1_both_8 : decode cX1_both 8 = .ok (.iconst 0, 1) := by decide +kernel
theorem dX1_both_9 : decode cX1_both 9 = .ok (.ireturn, 1) := by decide +kernel
theorem dX1_both_10 : decode cX1_both 10 = .ok (.iload_n 0, 1) := by decide +kernel
theorem dX1_both_11 : decode cX1_both 11 = .ok (.iconst (-1), 1) := by decide +kernel
theorem dX1_both_12 : decode cX1_both 12 = .ok (.if_icmp .eq 8, 3) := by decide +kernel
theorem dX1_both_15 : decode cX1_both 15 = .ok (.iload_n 1, 1) := by decide +kernel
theorem dX1_both_16 : decode cX1_both 16 = .ok (.iconst (-1), 1) := by decide +kernel
theorem dX1_both_17 : decode cX1_both 17 = .ok (.if_icmp .ne 7, 3) := by decide +kernel
theorem dX1_both_20 : decode cX1_both 20 = .ok (.iconst (-1), 1) := by decide +kernel
theorem dX1_both_21 : decode cX1_both 21 = .ok (.goto 4, 3) := by decide +kernel
theorem dX1_both_24 : decode cX1_both 24 = .ok (.iconst 1, 1) := by decide +kernel
theorem dX1_both_25 : decode cX1_both 25 = .ok (.ireturn, 1) := by decide +kernel
theorem dX1_opposite_0 : decode cX1_opposite 0 = .ok (.iload_n 0, 1) := by decide +kernel
theorem dX1_opposite_1 : decode cX1_opposite 1 = .ok (.iconst (-1), 1) := by decide +kernel
theorem dX1_opposite_2 : decode cX1_opposite 2 = .ok (.if_icmp .ne 7, 3) := by decide +kernel
theorem dX1_opposite_5 : decode cX1_opposite 5 = .ok (.iconst (-1), 1) := by decide +kernel
theorem dX1_opposite_6 : decode cX1_opposite 6 = .ok (.goto 6, 3) := by decide +kernel
theorem dX1_opposite_9 : decode cX1_opposite 9 = .ok (.iconst 1, 1) := by decide +kernel
theorem dX1_opposite_10 : decode cX1_opposite 10 = .ok (.iload_n 0, 1) := by decide +kernel
theorem dX1_opposite_11 : decode cX1_opposite 11 = .ok (.isub, 1) := by decide +kernel
theorem dX1_opposite_12 : decode cX1_opposite 12 = .ok (.ireturn, 1) := by decide +kernel
theorem dX2_init_0 : decode cX2_init 0 = .ok (.aload_n 0, 1) := by decide +kernel
theorem dX2_init_1 : decode cX2_init 1 = .ok (.invokespecial 3, 3) := by decide +kernel
theorem dX2_init_4 : decode cX2_init 4 = .ok (.aload_n 0, 1) := by decide +kernel
theorem dX2_init_5 : decode cX2_init 5 = .ok (.bipush 40, 2) := by decide +kernel
theorem dX2_init_7 : decode cX2_init 7 = .ok (.newarray .int, 2) := by decide +kernel
theorem dX2_init_9 : decode cX2_init 9 = .ok (.putfield 9, 3) := by decide +kernel
theorem dX2_init_12 : decode cX2_init 12 = .ok (.aload_n 0, 1) := by decide +kernel
theorem dX2_init_13 : decode cX2_init 13 = .ok (.bipush 40, 2) := by decide +kernel
theorem dX2_init_15 : decode cX2_init 15 = .ok (.newarray .int, 2) := by decide +kernel
theorem dX2_init_17 : decode cX2_init 17 = .ok (.putfield 15, 3) := by decide +kernel
theorem dX2_init_20 : decode cX2_init 20 = .ok (.aload_n 0, 1) := by decide +kernel
theorem dX2_init_21 : decode cX2_init 21 = .ok (.bipush 40, 2) := by decide +kernel
theorem dX2_init_23 : decode cX2_init 23 = .ok (.newarray .int, 2) := by decide +kernel
theorem dX2_init_25 : decode cX2_init 25 = .ok (.putfield 18, 3) := by decide +kernel
theorem dX2_init_28 : decode cX2_init 28 = .ok (.aload_n 0, 1) := by decide +kernel
theorem dX2_init_29 : decode cX2_init 29 = .ok (.bipush 40, 2) := by decide +kernel
theorem dX2_init_31 : decode cX2_init 31 = .ok (.newarray .int, 2) := by decide +kernel
theorem dX2_init_33 : decode cX2_init 33 = .ok (.putfield 21, 3) := by decide +kernel
theorem dX2_init_36 : decode cX2_init 36 = .ok (.aload_n 0, 1) := by decide +kernel
theorem dX2_init_37 : decode cX2_init 37 = .ok (.bipush 40, 2) := by decide +kernel
theorem dX2_init_39 : decode cX2_init 39 = .ok (.newarray .int, 2) := by decide +kernel
theorem dX2_init_41 : decode cX2_init 41 = .ok (.putfield 24, 3) := by decide +kernel
theorem dX2_init_44 : decode cX2_init 44 = .ok (.aload_n 0, 1) := by decide +kernel
theorem dX2_init_45 : decode cX2_init 45 = .ok (.bipush 40, 2) := by decide +kernel
theorem dX2_init_47 : decode cX2_init 47 = .ok (.newarray .int, 2) := by decide +kernel
theorem dX2_init_49 : decode cX2_init 49 = .ok (.putfield 27, 3) := by decide +kernel
theorem dX2_init_52 : decode cX2_init 52 = .ok (.return_, 1) := by decide +kernel
set_option maxRecDepth 20000 in
theorem ggX2_append_X5_put : GoodIn wsX2_append wsX5_put := goodIn_r _ [10] (by decide +kernel) (by decide +kernel)
set_option maxRecDepth 20000 in
theorem gX2_append_X5_put_n34 : GoodIn wsX2_append (wsX5_put) := ggX2_append_X5_put
theorem dX2_append_0 : decode cX2_append 0 = .ok (.aload_n 0, 1) := by decide +kernel
theorem dX2_append_1 : decode cX2_append 1 = .ok (.getfield 30, 3) := by decide +kernel
theorem dX2_append_4 : decode cX2_append 4 = .ok (.istore 7, 2) := by decide +kernel
theorem dX2_append_6 : decode cX2_append 6 = .ok (.aload_n 0, 1) := by decide +kernel
theorem dX2_append_7 : decode cX2_append 7 = .ok (.getfield 9, 3) := by decide +kernel
theorem dX2_append_10 : decode cX2_append 10 = .ok (.iload 7, 2) := by decide +kernel
theorem dX2_append_12 : decode cX2_append 12 = .ok (.iload_n 1, 1) := by decide +kernel
theorem dX2_append_13 : decode cX2_append 13 = .ok (.invokestatic 34, 3) := by decide +kernel
theorem dX2_append_16 : decode cX2_append 16 = .ok (.aload_n 0, 1) := by decide +kernel
theorem dX2_append_17 : decode cX2_append 17 = .ok (.getfield 15, 3) := by decide +kernel
theorem dX2_append_20 : decode cX2_append 20 = .ok (.iload 7, 2) := by decide +kernel
theorem dX2_append_22 : decode cX2_append 22 = .ok (.iload_n 2, 1) := by decide +kernel
theorem dX2_append_23 : decode cX2_append 23 = .ok (.invokestatic 34, 3) := by decide +kernel
theorem dX2_append_26 : decode cX2_append 26 = .ok (.aload_n 0, 1) := by decide +kernel
theorem dX2_append_27 : decode cX2_append 27 = .ok (.getfield 18, 3) := by decide +kernel
theorem dX2_append_30 : decode cX2_append 30 = .ok (.iload 7, 2) := by decide +kernel
theorem dX2_append_32 : decode cX2_append 32 = .ok (.iload_n 3, 1) := by decide +kernel
theorem dX2_append_33 : decode cX2_append 33 = .ok (.invokestatic 34, 3) := by decide +kernel
theorem dX2_append_36 : decode cX2_append 36 = .ok (.aload_n 0, 1) := by decide +kernel
theorem dX2_append_37 : decode cX2_append 37 = .ok (.getfield 21, 3) := by decide +kernel
theorem dX2_append_40 : decode cX2_append 40 = .ok (.iload 7, 2) := by decide +kernel
theorem dX2_append_42 : decode cX2_append 42 = .ok (.iload 4, 2) := by decide +kernel
theorem dX2_append_44 : decode cX2_append 44 = .ok (.invokestatic 34, 3) := by decide +kernel
theorem dX2_append_47 : decode cX2_append 47 = .ok (.aload_n 0, 1) := by decide +kernel
theorem dX2_append_48 : decode cX2_append 48 = .ok (.getfield 24, 3) := by decide +kernel
theorem dX2_append_51 : decode cX2_append 51 = .ok (.iload 7, 2) := by decide +kernel
theorem dX2_append_53 : decode cX2_append 53 = .ok (.iload 5, 2) := by decide +kernel
theorem dX2_append_55 : decode cX2_append 55 = .ok (.invokestatic 34, 3) := by decide +kernel
theorem dX2_append_58 : decode cX2_append 58 = .ok (.aload_n 0, 1) := by decide +kernel
theorem dX2_append_59 : decode cX2_append 59 = .ok (.getfield 27, 3) := by decide +kernel
theorem dX2_append_62 : decode cX2_append 62 = .ok (.iload 7, 2) := by decide +kernel
theorem dX2_append_64 : decode cX2_append 64 = .ok (.iload 6, 2) := by decide +kernel
theorem dX2_append_66 : decode cX2_append 66 = .ok (.invokestatic 34, 3) := by decide +kernel
theorem dX2_append_69 : decode cX2_append 69 = .ok (.aload_n 0, 1) := by decide +kernel
theorem dX2_append_70 : decode cX2_append 70 = .ok (.dup, 1) := by decide +kernel
theorem dX2_append_71 : decode cX2_append 71 = .ok (.getfield 30, 3) := by decide +kernel
theorem dX2_append_74 : decode cX2_append 74 = .ok (.iconst 1, 1) := by decide +kernel
theorem dX2_append_75 : decode cX2_append 75 = .ok (.iadd, 1) := by decide +kernel
theorem dX2_append_76 : decode cX2_append 76 = .ok (.putfield 30, 3) := by decide +kernel
theorem dX2_append_79 : decode cX2_append 79 = .ok (.iload 7, 2) := by decide +kernel
theorem dX2_append_81 : decode cX2_append 81 = .ok (.ireturn, 1) := by decide +kernel
theorem dX2_stampFrom_0 : decode cX2_stampFrom 0 = .ok (.iload_n 0, 1) := by decide +kernel
theorem dX2_stampFrom_1 : decode cX2_stampFrom 1 = .ok (.iconst 2, 1) := by decide +kernel
theorem dX2_stampFrom_2 : decode cX2_stampFrom 2 = .ok (.imul, 1) := by decide +kernel
theorem dX2_stampFrom_3 : decode cX2_stampFrom 3 = .ok (.iload_n 1, 1) := by decide +kernel
theorem dX2_stampFrom_4 : decode cX2_stampFrom 4 = .ok (.iadd, 1) := by decide +kernel
theorem dX2_stampFrom_5 : decode cX2_stampFrom 5 = .ok (.ireturn, 1) := by decide +kernel
set_option maxRecDepth 20000 in
theorem ggX2_stampAt_X5_at : GoodIn wsX2_stampAt wsX5_at := goodIn_r _ [4] (by decide +kernel) (by decide +kernel)
set_option maxRecDepth 20000 in
theorem gX2_stampAt_X5_at_n38 : GoodIn wsX2_stampAt (wsX5_at) := ggX2_stampAt_X5_at
theorem dX2_stampAt_0 : decode cX2_stampAt 0 = .ok (.aload_n 0, 1) := by decide +kernel
theorem dX2_stampAt_1 : decode cX2_stampAt 1 = .ok (.getfield 15, 3) := by decide +kernel
theorem dX2_stampAt_4 : decode cX2_stampAt 4 = .ok (.iload_n 1, 1) := by decide +kernel
theorem dX2_stampAt_5 : decode cX2_stampAt 5 = .ok (.invokestatic 38, 3) := by decide +kernel
theorem dX2_stampAt_8 : decode cX2_stampAt 8 = .ok (.ireturn, 1) := by decide +kernel
set_option maxRecDepth 20000 in
theorem ggX2_timeAt_X5_at : GoodIn wsX2_timeAt wsX5_at := goodIn_r _ [4] (by decide +kernel) (by decide +kernel)
set_option maxRecDepth 20000 in
theorem gX2_timeAt_X5_at_n38 : GoodIn wsX2_timeAt (wsX5_at) := ggX2_timeAt_X5_at
theorem dX2_timeAt_0 : decode cX2_timeAt 0 = .ok (.aload_n 0, 1) := by decide +kernel
theorem dX2_timeAt_1 : decode cX2_timeAt 1 = .ok (.getfield 15, 3) := by decide +kernel
theorem dX2_timeAt_4 : decode cX2_timeAt 4 = .ok (.iload_n 1, 1) := by decide +kernel
theorem dX2_timeAt_5 : decode cX2_timeAt 5 = .ok (.invokestatic 38, 3) := by decide +kernel
theorem dX2_timeAt_8 : decode cX2_timeAt 8 = .ok (.iconst 2, 1) := by decide +kernel
theorem dX2_timeAt_9 : decode cX2_timeAt 9 = .ok (.idiv, 1) := by decide +kernel
theorem dX2_timeAt_10 : decode cX2_timeAt 10 = .ok (.ireturn, 1) := by decide +kernel
set_option maxRecDepth 20000 in
theorem ggX3_init_J7_fill_53178 : GoodIn wsX3_init wsJ7_fill_53178 := goodIn_r _ [11] (by decide +kernel) (by decide +kernel)
set_option maxRecDepth 20000 in
theorem gX3_init_J7_fill_53178 : GoodIn wsX3_init (va_wsS RX3 19 yJ7_fill_53178 wsJ7_fill_53178) := goodIn_app (goodIn_of _ (by decide +kernel)) ggX3_init_J7_fill_53178
theorem dX3_init_0 : decode cX3_init 0 = .ok (.aload_n 0, 1) := by decide +kernel
theorem dX3_init_1 : decode cX3_init 1 = .ok (.invokespecial 3, 3) := by decide +kernel
theorem dX3_init_4 : decode cX3_init 4 = .ok (.aload_n 0, 1) := by decide +kernel
theorem dX3_init_5 : decode cX3_init 5 = .ok (.bipush 126, 2) := by decide +kernel
theorem dX3_init_7 : decode cX3_init 7 = .ok (.newarray .int, 2) := by decide +kernel
theorem dX3_init_9 : decode cX3_init 9 = .ok (.putfield 9, 3) := by decide +kernel
theorem dX3_init_12 : decode cX3_init 12 = .ok (.aload_n 0, 1) := by decide +kernel
theorem dX3_init_13 : decode cX3_init 13 = .ok (.bipush 42, 2) := by decide +kernel
theorem dX3_init_15 : decode cX3_init 15 = .ok (.newarray .boolean, 2) := by decide +kernel
theorem dX3_init_17 : decode cX3_init 17 = .ok (.putfield 15, 3) := by decide +kernel
theorem dX3_init_20 : decode cX3_init 20 = .ok (.aload_n 0, 1) := by decide +kernel
theorem dX3_init_21 : decode cX3_init 21 = .ok (.getfield 9, 3) := by decide +kernel
theorem dX3_init_24 : decode cX3_init 24 = .ok (.iconst (-1), 1) := by decide +kernel
theorem dX3_init_25 : decode cX3_init 25 = .ok (.invokestatic 19, 3) := by decide +kernel
theorem dX3_init_28 : decode cX3_init 28 = .ok (.return_, 1) := by decide +kernel
set_option maxRecDepth 20000 in
theorem ggX3_putRight_X5_put : GoodIn wsX3_putRight wsX5_put := goodIn_r _ [4] (by decide +kernel) (by decide +kernel)
set_option maxRecDepth 20000 in
theorem gX3_putRight_X5_put_n25 : GoodIn wsX3_putRight (wsX5_put) := ggX3_putRight_X5_put
theorem dX3_putRight_0 : decode cX3_putRight 0 = .ok (.aload_n 0, 1) := by decide +kernel
theorem dX3_putRight_1 : decode cX3_putRight 1 = .ok (.getfield 9, 3) := by decide +kernel
theorem dX3_putRight_4 : decode cX3_putRight 4 = .ok (.iload_n 1, 1) := by decide +kernel
theorem dX3_putRight_5 : decode cX3_putRight 5 = .ok (.bipush 42, 2) := by decide +kernel
theorem dX3_putRight_7 : decode cX3_putRight 7 = .ok (.imul, 1) := by decide +kernel
theorem dX3_putRight_8 : decode cX3_putRight 8 = .ok (.iload_n 2, 1) := by decide +kernel
theorem dX3_putRight_9 : decode cX3_putRight 9 = .ok (.iadd, 1) := by decide +kernel
theorem dX3_putRight_10 : decode cX3_putRight 10 = .ok (.iload_n 3, 1) := by decide +kernel
theorem dX3_putRight_11 : decode cX3_putRight 11 = .ok (.invokestatic 25, 3) := by decide +kernel
theorem dX3_putRight_14 : decode cX3_putRight 14 = .ok (.return_, 1) := by decide +kernel
theorem dX3_putReferral_0 : decode cX3_putReferral 0 = .ok (.iload_n 1, 1) := by decide +kernel
theorem dX3_putReferral_1 : decode cX3_putReferral 1 = .ok (.ifCond .lt 16, 3) := by decide +kernel
theorem dX3_putReferral_4 : decode cX3_putReferral 4 = .ok (.iload_n 1, 1) := by decide +kernel
theorem dX3_putReferral_5 : decode cX3_putReferral 5 = .ok (.bipush 42, 2) := by decide +kernel
theorem dX3_putReferral_7 : decode cX3_putReferral 7 = .ok (.if_icmp .ge 10, 3) := by decide +kernel
theorem dX3_putReferral_10 : decode cX3_putReferral 10 = .ok (.aload_n 0, 1) := by decide +kernel
theorem dX3_putReferral_11 : decode cX3_putReferral 11 = .ok (.getfield 15, 3) := by decide +kernel
theorem dX3_putReferral_14 : decode cX3_putReferral 14 = .ok (.iload_n 1, 1) := by decide +kernel
theorem dX3_putReferral_15 : decode cX3_putReferral 15 = .ok (.iload_n 2, 1) := by decide +kernel
theorem dX3_putReferral_16 : decode cX3_putReferral 16 = .ok (.bastore, 1) := by decide +kernel
theorem dX3_putReferral_17 : decode cX3_putReferral 17 = .ok (.return_, 1) := by decide +kernel
theorem dX3_isReferral_0 : decode cX3_isReferral 0 = .ok (.iload_n 1, 1) := by decide +kernel
theorem dX3_isReferral_1 : decode cX3_isReferral 1 = .ok (.ifCond .lt 22, 3) := by decide +kernel
theorem dX3_isReferral_4 : decode cX3_isReferral 4 = .ok (.iload_n 1, 1) := by decide +kernel
theorem dX3_isReferral_5 : decode cX3_isReferral 5 = .ok (.bipush 42, 2) := by decide +kernel
theorem dX3_isReferral_7 : decode cX3_isReferral 7 = .ok (.if_icmp .ge 16, 3) := by decide +kernel
theorem dX3_isReferral_10 : decode cX3_isReferral 10 = .ok (.aload_n 0, 1) := by decide +kernel
theorem dX3_isReferral_11 : decode cX3_isReferral 11 = .ok (.getfield 15, 3) := by decide +kernel
theorem dX3_isReferral_14 : decode cX3_isReferral 14 = .ok (.iload_n 1, 1) := by decide +kernel
theorem dX3_isReferral_15 : decode cX3_isReferral 15 = .ok (.baload, 1) := by decide +kernel
theorem dX3_isReferral_16 : decode cX3_isReferral 16 = .ok (.ifCond .eq 7, 3) := by decide +kernel
theorem dX3_isReferral_19 : decode cX3_isReferral 19 = .ok (.iconst 1, 1) := by decide +kernel
theorem dX3_isReferral_20 : decode cX3_isReferral 20 = .ok (.goto 4, 3) := by decide +kernel
theorem dX3_isReferral_23 : decode cX3_isReferral 23 = .ok (.iconst 0, 1) := by decide +kernel
theorem dX3_isReferral_24 : decode cX3_isReferral 24 = .ok (.ireturn, 1) := by decide +kernel
set_option maxRecDepth 20000 in
theorem ggX3_rightThatCounts_X5_at : GoodIn wsX3_rightThatCounts wsX5_at := goodIn_r _ [4] (by decide +kernel) (by decide +kernel)
set_option maxRecDepth 20000 in
theorem gX3_rightThatCounts_X5_at_n29 : GoodIn wsX3_rightThatCounts (wsX5_at) := ggX3_rightThatCounts_X5_at
set_option maxRecDepth 20000 in
theorem ggX3_rightThatCounts_X4_parentAt : GoodIn wsX3_rightThatCounts wsX4_parentAt := goodIn_r _ [9, 10, 2, 3, 4, 13, 14, 15, 16, 17, 18, 19, 20, 21, 22, 23] (by decide +kernel) (by decide +kernel)
set_option maxRecDepth 20000 in
theorem gX3_rightThatCounts_X4_parentAt : GoodIn wsX3_rightThatCounts (wsV RX3 33 RX4 yX4_parentAt wsX4_parentAt) := goodIn_app (goodIn_of _ (by decide +kernel)) ggX3_rightThatCounts_X4_parentAt
theorem dX3_rightThatCounts_0 : decode cX3_rightThatCounts 0 = .ok (.iload_n 3, 1) := by decide +kernel
theorem dX3_rightThatCounts_1 : decode cX3_rightThatCounts 1 = .ok (.istore 4, 2) := by decide +kernel
theorem dX3_rightThatCounts_3 : decode cX3_rightThatCounts 3 = .ok (.iconst 0, 1) := by decide +kernel
theorem dX3_rightThatCounts_4 : decode cX3_rightThatCounts 4 = .ok (.istore 5, 2) := by decide +kernel
theorem dX3_rightThatCounts_6 : decode cX3_rightThatCounts 6 = .ok (.iload 5, 2) := by decide +kernel
theorem dX3_rightThatCounts_8 : decode cX3_rightThatCounts 8 = .ok (.bipush 42, 2) := by decide +kernel
theorem dX3_rightThatCounts_10 : decode cX3_rightThatCounts 10 = .ok (.if_icmp .ge 48, 3) := by decide +kernel
theorem dX3_rightThatCounts_13 : decode cX3_rightThatCounts 13 = .ok (.iload 4, 2) := by decide +kernel
theorem dX3_rightThatCounts_15 : decode cX3_rightThatCounts 15 = .ok (.iconst (-1), 1) := by decide +kernel
theorem dX3_rightThatCounts_16 : decode cX3_rightThatCounts 16 = .ok (.if_icmp .eq 42, 3) := by decide +kernel
theorem dX3_rightThatCounts_19 : decode cX3_rightThatCounts 19 = .ok (.aload_n 0, 1) := by decide +kernel
theorem dX3_rightThatCounts_20 : decode cX3_rightThatCounts 20 = .ok (.getfield 9, 3) := by decide +kernel
theorem dX3_rightThatCounts_23 : decode cX3_rightThatCounts 23 = .ok (.iload_n 1, 1) := by decide +kernel
theorem dX3_rightThatCounts_24 : decode cX3_rightThatCounts 24 = .ok (.bipush 42, 2) := by decide +kernel
theorem dX3_rightThatCounts_26 : decode cX3_rightThatCounts 26 = .ok (.imul, 1) := by decide +kernel
theorem dX3_rightThatCounts_27 : decode cX3_rightThatCounts 27 = .ok (.iload 4, 2) := by decide +kernel
theorem dX3_rightThatCounts_29 : decode cX3_rightThatCounts 29 = .ok (.iadd, 1) := by decide +kernel
theorem dX3_rightThatCounts_30 : decode cX3_rightThatCounts 30 = .ok (.invokestatic 29, 3) := by decide +kernel
theorem dX3_rightThatCounts_33 : decode cX3_rightThatCounts 33 = .ok (.istore 6, 2) := by decide +kernel
theorem dX3_rightThatCounts_35 : decode cX3_rightThatCounts 35 = .ok (.iload 6, 2) := by decide +kernel
theorem dX3_rightThatCounts_37 : decode cX3_rightThatCounts 37 = .ok (.iconst (-1), 1) := by decide +kernel
theorem dX3_rightThatCounts_38 : decode cX3_rightThatCounts 38 = .ok (.if_icmp .eq 6, 3) := by decide +kernel
theorem dX3_rightThatCounts_41 : decode cX3_rightThatCounts 41 = .ok (.iload 6, 2) := by decide +kernel
theorem dX3_rightThatCounts_43 : decode cX3_rightThatCounts 43 = .ok (.ireturn, 1) := by decide +kernel
theorem dX3_rightThatCounts_44 : decode cX3_rightThatCounts 44 = .ok (.aload_n 2, 1) := by decide +kernel
theorem dX3_rightThatCounts_45 : decode cX3_rightThatCounts 45 = .ok (.iload 4, 2) := by decide +kernel
theorem dX3_rightThatCounts_47 : decode cX3_rightThatCounts 47 = .ok (.invokevirtual 33, 3) := by decide +kernel
theorem dX3_rightThatCounts_50 : decode cX3_rightThatCounts 50 = .ok (.istore 4, 2) := by decide +kernel
theorem dX3_rightThatCounts_52 : decode cX3_rightThatCounts 52 = .ok (.iinc 5 1, 3) := by decide +kernel
theorem dX3_rightThatCounts_55 : decode cX3_rightThatCounts 55 = .ok (.goto (-49), 3) := by decide +kernel
theorem dX3_rightThatCounts_58 : decode cX3_rightThatCounts 58 = .ok (.iconst 0, 1) := by decide +kernel
theorem dX3_rightThatCounts_59 : decode cX3_rightThatCounts 59 = .ok (.ireturn, 1) := by decide +kernel
set_option maxRecDepth 20000 in
theorem ggX4_init_X4_clear : GoodIn wsX4_init wsX4_clear := goodIn_r _ [19, 7, 8, 9, 10, 11, 20, 21, 22, 23, 24, 25, 26, 27, 28, 29, 30, 31, 32, 33, 34, 35] (by decide +kernel) (by decide +kernel)
set_option maxRecDepth 20000 in
theorem gX4_init_X4_clear : GoodIn wsX4_init (wsV RX4 43 RX4 yX4_clear wsX4_clear) := goodIn_app (goodIn_of _ (by decide +kernel)) ggX4_init_X4_clear
theorem dX4_init_0 : decode cX4_init 0 = .ok (.aload_n 0, 1) := by decide +kernel
theorem dX4_init_1 : decode cX4_init 1 = .ok (.invokespecial 3, 3) := by decide +kernel
theorem dX4_init_4 : decode cX4_init 4 = .ok (.aload_n 0, 1) := by decide +kernel
theorem dX4_init_5 : decode cX4_init 5 = .ok (.bipush 40, 2) := by decide +kernel
theorem dX4_init_7 : decode cX4_init 7 = .ok (.newarray .int, 2) := by decide +kernel
theorem dX4_init_9 : decode cX4_init 9 = .ok (.putfield 9, 3) := by decide +kernel
theorem dX4_init_12 : decode cX4_init 12 = .ok (.aload_n 0, 1) := by decide +kernel
theorem dX4_init_13 : decode cX4_init 13 = .ok (.bipush 42, 2) := by decide +kernel
theorem dX4_init_15 : decode cX4_init 15 = .ok (.newarray .boolean, 2) := by decide +kernel
theorem dX4_init_17 : decode cX4_init 17 = .ok (.putfield 15, 3) := by decide +kernel
theorem dX4_init_20 : decode cX4_init 20 = .ok (.aload_n 0, 1) := by decide +kernel
theorem dX4_init_21 : decode cX4_init 21 = .ok (.bipush 42, 2) := by decide +kernel
theorem dX4_init_23 : decode cX4_init 23 = .ok (.newarray .int, 2) := by decide +kernel
theorem dX4_init_25 : decode cX4_init 25 = .ok (.putfield 19, 3) := by decide +kernel
theorem dX4_init_28 : decode cX4_init 28 = .ok (.aload_n 0, 1) := by decide +kernel
theorem dX4_init_29 : decode cX4_init 29 = .ok (.bipush 42, 2) := by decide +kernel
theorem dX4_init_31 : decode cX4_init 31 = .ok (.newarray .int, 2) := by decide +kernel
theorem dX4_init_33 : decode cX4_init 33 = .ok (.putfield 22, 3) := by decide +kernel
theorem dX4_init_36 : decode cX4_init 36 = .ok (.aload_n 0, 1) := by decide +kernel
theorem dX4_init_37 : decode cX4_init 37 = .ok (.bipush 42, 2) := by decide +kernel
theorem dX4_init_39 : decode cX4_init 39 = .ok (.newarray .int, 2) := by decide +kernel
theorem dX4_init_41 : decode cX4_init 41 = .ok (.putfield 25, 3) := by decide +kernel
theorem dX4_init_44 : decode cX4_init 44 = .ok (.aload_n 0, 1) := by decide +kernel
theorem dX4_init_45 : decode cX4_init 45 = .ok (.sipush 168, 3) := by decide +kernel
theorem dX4_init_48 : decode cX4_init 48 = .ok (.newarray .int, 2) := by decide +kernel
theorem dX4_init_50 : decode cX4_init 50 = .ok (.putfield 28, 3) := by decide +kernel
theorem dX4_init_53 : decode cX4_init 53 = .ok (.aload_n 0, 1) := by decide +kernel
theorem dX4_init_54 : decode cX4_init 54 = .ok (.iload_n 1, 1) := by decide +kernel
theorem dX4_init_55 : decode cX4_init 55 = .ok (.putfield 31, 3) := by decide +kernel
theorem dX4_init_58 : decode cX4_init 58 = .ok (.aload_n 0, 1) := by decide +kernel
theorem dX4_init_59 : decode cX4_init 59 = .ok (.aload_n 2, 1) := by decide +kernel
theorem dX4_init_60 : decode cX4_init 60 = .ok (.putfield 35, 3) := by decide +kernel
theorem dX4_init_63 : decode cX4_init 63 = .ok (.aload_n 0, 1) := by decide +kernel
theorem dX4_init_64 : decode cX4_init 64 = .ok (.aload_n 3, 1) := by decide +kernel
theorem dX4_init_65 : decode cX4_init 65 = .ok (.putfield 39, 3) := by decide +kernel
theorem dX4_init_68 : decode cX4_init 68 = .ok (.aload_n 0, 1) := by decide +kernel
theorem dX4_init_69 : decode cX4_init 69 = .ok (.invokevirtual 43, 3) := by decide +kernel
theorem dX4_init_72 : decode cX4_init 72 = .ok (.return_, 1) := by decide +kernel
set_option maxRecDepth 20000 in
theorem ggX4_clear_J7_fill_53178 : GoodIn wsX4_clear wsJ7_fill_53178 := goodIn_r _ [10] (by decide +kernel) (by decide +kernel)
set_option maxRecDepth 20000 in
theorem gX4_clear_J7_fill_53178 : GoodIn wsX4_clear (va_wsS RX4 46 yJ7_fill_53178 wsJ7_fill_53178) := goodIn_app (goodIn_of _ (by decide +kernel)) ggX4_clear_J7_fill_53178
theorem dX4_clear_0 : decode cX4_clear 0 = .ok (.iconst 0, 1) := by decide +kernel
theorem dX4_clear_1 : decode cX4_clear 1 = .ok (.istore_n 1, 1) := by decide +kernel
theorem dX4_clear_2 : decode cX4_clear 2 = .ok (.iload_n 1, 1) := by decide +kernel
theorem dX4_clear_3 : decode cX4_clear 3 = .ok (.bipush 42, 2) := by decide +kernel
theorem dX4_clear_5 : decode cX4_clear 5 = .ok (.if_icmp .ge 25, 3) := by decide +kernel
theorem dX4_clear_8 : decode cX4_clear 8 = .ok (.aload_n 0, 1) := by decide +kernel
theorem dX4_clear_9 : decode cX4_clear 9 = .ok (.getfield 15, 3) := by decide +kernel
theorem dX4_clear_12 : decode cX4_clear 12 = .ok (.iload_n 1, 1) := by decide +kernel
theorem dX4_clear_13 : decode cX4_clear 13 = .ok (.iload_n 1, 1) := by decide +kernel
theorem dX4_clear_14 : decode cX4_clear 14 = .ok (.iconst 2, 1) := by decide +kernel
theorem dX4_clear_15 : decode cX4_clear 15 = .ok (.if_icmp .ge 7, 3) := by decide +kernel
theorem dX4_clear_18 : decode cX4_clear 18 = .ok (.iconst 1, 1) := by decide +kernel
theorem dX4_clear_19 : decode cX4_clear 19 = .ok (.goto 4, 3) := by decide +kernel
theorem dX4_clear_22 : decode cX4_clear 22 = .ok (.iconst 0, 1) := by decide +kernel
theorem dX4_clear_23 : decode cX4_clear 23 = .ok (.bastore, 1) := by decide +kernel
theorem dX4_clear_24 : decode cX4_clear 24 = .ok (.iinc 1 1, 3) := by decide +kernel
theorem dX4_clear_27 : decode cX4_clear 27 = .ok (.goto (-25), 3) := by decide +kernel
theorem dX4_clear_30 : decode cX4_clear 30 = .ok (.aload_n 0, 1) := by decide +kernel
theorem dX4_clear_31 : decode cX4_clear 31 = .ok (.getfield 19, 3) := by decide +kernel
theorem dX4_clear_34 : decode cX4_clear 34 = .ok (.iconst (-1), 1) := by decide +kernel
theorem dX4_clear_35 : decode cX4_clear 35 = .ok (.invokestatic 46, 3) := by decide +kernel
theorem dX4_clear_38 : decode cX4_clear 38 = .ok (.aload_n 0, 1) := by decide +kernel
theorem dX4_clear_39 : decode cX4_clear 39 = .ok (.getfield 22, 3) := by decide +kernel
theorem dX4_clear_42 : decode cX4_clear 42 = .ok (.iconst (-1), 1) := by decide +kernel
theorem dX4_clear_43 : decode cX4_clear 43 = .ok (.invokestatic 46, 3) := by decide +kernel
theorem dX4_clear_46 : decode cX4_clear 46 = .ok (.aload_n 0, 1) := by decide +kernel
theorem dX4_clear_47 : decode cX4_clear 47 = .ok (.getfield 25, 3) := by decide +kernel
theorem dX4_clear_50 : decode cX4_clear 50 = .ok (.iconst 0, 1) := by decide +kernel
theorem dX4_clear_51 : decode cX4_clear 51 = .ok (.invokestatic 46, 3) := by decide +kernel
theorem dX4_clear_54 : decode cX4_clear 54 = .ok (.aload_n 0, 1) := by decide +kernel
theorem dX4_clear_55 : decode cX4_clear 55 = .ok (.getfield 28, 3) := by decide +kernel
theorem dX4_clear_58 : decode cX4_clear 58 = .ok (.iconst (-1), 1) := by decide +kernel
theorem dX4_clear_59 : decode cX4_clear 59 = .ok (.invokestatic 46, 3) := by decide +kernel
theorem dX4_clear_62 : decode cX4_clear 62 = .ok (.aload_n 0, 1) := by decide +kernel
theorem dX4_clear_63 : decode cX4_clear 63 = .ok (.getfield 19, 3) := by decide +kernel
theorem dX4_clear_66 : decode cX4_clear 66 = .ok (.iconst 1, 1) := by decide +kernel
theorem dX4_clear_67 : decode cX4_clear 67 = .ok (.iconst 0, 1) := by decide +kernel
theorem dX4_clear_68 : decode cX4_clear 68 = .ok (.iastore, 1) := by decide +kernel
theorem dX4_clear_69 : decode cX4_clear 69 = .ok (.aload_n 0, 1) := by decide +kernel
theorem dX4_clear_70 : decode cX4_clear 70 = .ok (.getfield 22, 3) := by decide +kernel
theorem dX4_clear_73 : decode cX4_clear 73 = .ok (.iconst 1, 1) := by decide +kernel
theorem dX4_clear_74 : decode cX4_clear 74 = .ok (.bipush 99, 2) := by decide +kernel
theorem dX4_clear_76 : decode cX4_clear 76 = .ok (.iastore, 1) := by decide +kernel
theorem dX4_clear_77 : decode cX4_clear 77 = .ok (.aload_n 0, 1) := by decide +kernel
theorem dX4_clear_78 : decode cX4_clear 78 = .ok (.iconst 2, 1) := by decide +kernel
theorem dX4_clear_79 : decode cX4_clear 79 = .ok (.putfield 52, 3) := by decide +kernel
theorem dX4_clear_82 : decode cX4_clear 82 = .ok (.return_, 1) := by decide +kernel
theorem dX4_knows_0 : decode cX4_knows 0 = .ok (.iconst 0, 1) := by decide +kernel
theorem dX4_knows_1 : decode cX4_knows 1 = .ok (.istore_n 2, 1) := by decide +kernel
theorem dX4_knows_2 : decode cX4_knows 2 = .ok (.iload_n 2, 1) := by decide +kernel
theorem dX4_knows_3 : decode cX4_knows 3 = .ok (.aload_n 0, 1) := by decide +kernel
theorem dX4_knows_4 : decode cX4_knows 4 = .ok (.getfield 55, 3) := by decide +kernel
theorem dX4_knows_7 : decode cX4_knows 7 = .ok (.if_icmp .ge 27, 3) := by decide +kernel
theorem dX4_knows_10 : decode cX4_knows 10 = .ok (.iload_n 2, 1) := by decide +kernel
theorem dX4_knows_11 : decode cX4_knows 11 = .ok (.bipush 40, 2) := by decide +kernel
theorem dX4_knows_13 : decode cX4_knows 13 = .ok (.if_icmp .ge 21, 3) := by decide +kernel
theorem dX4_knows_16 : decode cX4_knows 16 = .ok (.aload_n 0, 1) := by decide +kernel
theorem dX4_knows_17 : decode cX4_knows 17 = .ok (.getfield 9, 3) := by decide +kernel
theorem dX4_knows_20 : decode cX4_knows 20 = .ok (.iload_n 2, 1) := by decide +kernel
theorem dX4_knows_21 : decode cX4_knows 21 = .ok (.iaload, 1) := by decide +kernel
theorem dX4_knows_22 : decode cX4_knows 22 = .ok (.iload_n 1, 1) := by decide +kernel
theorem dX4_knows_23 : decode cX4_knows 23 = .ok (.if_icmp .ne 5, 3) := by decide +kernel
theorem dX4_knows_26 : decode cX4_knows 26 = .ok (.iconst 1, 1) := by decide +kernel
theorem dX4_knows_27 : decode cX4_knows 27 = .ok (.ireturn, 1) := by decide +kernel
theorem dX4_knows_28 : decode cX4_knows 28 = .ok (.iinc 2 1, 3) := by decide +kernel
theorem dX4_knows_31 : decode cX4_knows 31 = .ok (.goto (-29), 3) := by decide +kernel
theorem dX4_knows_34 : decode cX4_knows 34 = .ok (.iconst 0, 1) := by decide +kernel
theorem dX4_knows_35 : decode cX4_knows 35 = .ok (.ireturn, 1) := by decide +kernel
set_option maxRecDepth 20000 in
theorem ggX4_stampOfNext_X5_at : GoodIn wsX4_stampOfNext wsX5_at := goodIn_r _ [7] (by decide +kernel) (by decide +kernel)
set_option maxRecDepth 20000 in
theorem gX4_stampOfNext_X5_at_n58 : GoodIn wsX4_stampOfNext (wsX5_at) := ggX4_stampOfNext_X5_at
set_option maxRecDepth 20000 in
theorem ggX4_stampOfNext_X2_timeAt : GoodIn wsX4_stampOfNext wsX2_timeAt := goodIn_r _ [12, 13, 5, 6, 7, 28, 29, 30, 31, 32, 33, 34] (by decide +kernel) (by decide +kernel)
set_option maxRecDepth 20000 in
theorem gX4_stampOfNext_X2_timeAt : GoodIn wsX4_stampOfNext (wsV RX4 62 RX2 yX2_timeAt wsX2_timeAt) := goodIn_app (goodIn_of _ (by decide +kernel)) ggX4_stampOfNext_X2_timeAt
set_option maxRecDepth 20000 in
theorem ggX4_stampOfNext_X2_stampFrom : GoodIn wsX4_stampOfNext wsX2_stampFrom := goodIn_r _ [16] (by decide +kernel) (by decide +kernel)
set_option maxRecDepth 20000 in
theorem gX4_stampOfNext_X2_stampFrom : GoodIn wsX4_stampOfNext (va_wsS RX4 68 yX2_stampFrom wsX2_stampFrom) := goodIn_app (goodIn_of _ (by decide +kernel)) ggX4_stampOfNext_X2_stampFrom
theorem dX4_stampOfNext_0 : decode cX4_stampOfNext 0 = .ok (.aload_n 0, 1) := by decide +kernel
theorem dX4_stampOfNext_1 : decode cX4_stampOfNext 1 = .ok (.getfield 55, 3) := by decide +kernel
theorem dX4_stampOfNext_4 : decode cX4_stampOfNext 4 = .ok (.ifCond .ne 7, 3) := by decide +kernel
theorem dX4_stampOfNext_7 : decode cX4_stampOfNext 7 = .ok (.iconst 0, 1) := by decide +kernel
theorem dX4_stampOfNext_8 : decode cX4_stampOfNext 8 = .ok (.goto 23, 3) := by decide +kernel
theorem dX4_stampOfNext_11 : decode cX4_stampOfNext 11 = .ok (.aload_n 0, 1) := by decide +kernel
theorem dX4_stampOfNext_12 : decode cX4_stampOfNext 12 = .ok (.getfield 35, 3) := by decide +kernel
theorem dX4_stampOfNext_15 : decode cX4_stampOfNext 15 = .ok (.aload_n 0, 1) := by decide +kernel
theorem dX4_stampOfNext_16 : decode cX4_stampOfNext 16 = .ok (.getfield 9, 3) := by decide +kernel
theorem dX4_stampOfNext_19 : decode cX4_stampOfNext 19 = .ok (.aload_n 0, 1) := by decide +kernel
theorem dX4_stampOfNext_20 : decode cX4_stampOfNext 20 = .ok (.getfield 55, 3) := by decide +kernel
theorem dX4_stampOfNext_23 : decode cX4_stampOfNext 23 = .ok (.iconst 1, 1) := by decide +kernel
theorem dX4_stampOfNext_24 : decode cX4_stampOfNext 24 = .ok (.isub, 1) := by decide +kernel
theorem dX4_stampOfNext_25 : decode cX4_stampOfNext 25 = .ok (.invokestatic 58, 3) := by decide +kernel
theorem dX4_stampOfNext_28 : decode cX4_stampOfNext 28 = .ok (.invokevirtual 62, 3) := by decide +kernel
theorem dX4_stampOfNext_31 : decode cX4_stampOfNext 31 = .ok (.istore_n 1, 1) := by decide +kernel
theorem dX4_stampOfNext_32 : decode cX4_stampOfNext 32 = .ok (.iload_n 1, 1) := by decide +kernel
theorem dX4_stampOfNext_33 : decode cX4_stampOfNext 33 = .ok (.iconst 1, 1) := by decide +kernel
theorem dX4_stampOfNext_34 : decode cX4_stampOfNext 34 = .ok (.iadd, 1) := by decide +kernel
theorem dX4_stampOfNext_35 : decode cX4_stampOfNext 35 = .ok (.aload_n 0, 1) := by decide +kernel
theorem dX4_stampOfNext_36 : decode cX4_stampOfNext 36 = .ok (.getfield 31, 3) := by decide +kernel
theorem dX4_stampOfNext_39 : decode cX4_stampOfNext 39 = .ok (.invokestatic 68, 3) := by decide +kernel
theorem dX4_stampOfNext_42 : decode cX4_stampOfNext 42 = .ok (.ireturn, 1) := by decide +kernel
set_option maxRecDepth 20000 in
theorem ggX4_learn_X4_putInOrder : GoodIn wsX4_learn wsX4_putInOrder := goodIn_r _ [7, 1, 8, 2, 9, 10, 11, 12, 13, 14, 15, 16, 17, 18, 19, 91, 92, 93, 94, 95, 96, 97, 98, 99, 100, 101, 102, 103, 104, 105, 106, 107, 108] (by decide +kernel) (by decide +kernel)
set_option maxRecDepth 20000 in
theorem gX4_learn_X4_putInOrder : GoodIn wsX4_learn (wsV RX4 72 RX4 yX4_putInOrder wsX4_putInOrder) := goodIn_app (goodIn_of _ (by decide +kernel)) ggX4_learn_X4_putInOrder
set_option maxRecDepth 20000 in
theorem ggX4_learn_X4_clear : GoodIn wsX4_learn wsX4_clear := goodIn_r _ [23, 24, 25, 26, 27, 28, 29, 30, 31, 32, 33, 91, 92, 93, 94, 95, 96, 97, 98, 99, 100, 101] (by decide +kernel) (by decide +kernel)
set_option maxRecDepth 20000 in
theorem gX4_learn_X4_clear : GoodIn wsX4_learn (wsV RX4 43 RX4 yX4_clear wsX4_clear) := goodIn_app (goodIn_of _ (by decide +kernel)) ggX4_learn_X4_clear
set_option maxRecDepth 20000 in
theorem ggX4_learn_X4_perform : GoodIn wsX4_learn wsX4_perform := goodIn_r _ [37, 8, 9, 10, 11, 38, 39, 40, 6, 41, 24, 26, 27, 29, 42, 43, 44, 45, 25, 46, 47, 48, 49, 50, 51, 52, 53, 54, 55, 56, 57, 58, 59, 60, 28, 61, 62, 63, 64, 65, 66, 67, 68, 69, 70, 71, 72, 73, 74, 18, 19, 75, 76, 77, 78, 79, 80, 81, 82, 83, 84, 85, 86, 87, 88, 89, 90, 91, 92, 93, 94, 95, 96, 97, 98, 99, 100, 101, 102, 103, 104, 105, 106, 107, 108, 109, 110] (by decide +kernel) (by decide +kernel)
set_option maxRecDepth 20000 in
theorem gX4_learn_X4_perform : GoodIn wsX4_learn (wsV RX4 75 RX4 yX4_perform wsX4_perform) := goodIn_app (goodIn_of _ (by decide +kernel)) ggX4_learn_X4_perform
theorem dX4_learn_0 : decode cX4_learn 0 = .ok (.aload_n 0, 1) := by decide +kernel
theorem dX4_learn_1 : decode cX4_learn 1 = .ok (.getfield 55, 3) := by decide +kernel
theorem dX4_learn_4 : decode cX4_learn 4 = .ok (.bipush 40, 2) := by decide +kernel
theorem dX4_learn_6 : decode cX4_learn 6 = .ok (.if_icmp .lt 4, 3) := by decide +kernel
theorem dX4_learn_9 : decode cX4_learn 9 = .ok (.return_, 1) := by decide +kernel
theorem dX4_learn_10 : decode cX4_learn 10 = .ok (.aload_n 0, 1) := by decide +kernel
theorem dX4_learn_11 : decode cX4_learn 11 = .ok (.iload_n 1, 1) := by decide +kernel
theorem dX4_learn_12 : decode cX4_learn 12 = .ok (.invokevirtual 72, 3) := by decide +kernel
theorem dX4_learn_15 : decode cX4_learn 15 = .ok (.istore_n 2, 1) := by decide +kernel
theorem dX4_learn_16 : decode cX4_learn 16 = .ok (.iload_n 2, 1) := by decide +kernel
theorem dX4_learn_17 : decode cX4_learn 17 = .ok (.aload_n 0, 1) := by decide +kernel
theorem dX4_learn_18 : decode cX4_learn 18 = .ok (.getfield 55, 3) := by decide +kernel
theorem dX4_learn_21 : decode cX4_learn 21 = .ok (.iconst 1, 1) := by decide +kernel
theorem dX4_learn_22 : decode cX4_learn 22 = .ok (.isub, 1) := by decide +kernel
theorem dX4_learn_23 : decode cX4_learn 23 = .ok (.if_icmp .ge 9, 3) := by decide +kernel
theorem dX4_learn_26 : decode cX4_learn 26 = .ok (.aload_n 0, 1) := by decide +kernel
theorem dX4_learn_27 : decode cX4_learn 27 = .ok (.invokevirtual 43, 3) := by decide +kernel
theorem dX4_learn_30 : decode cX4_learn 30 = .ok (.iconst 0, 1) := by decide +kernel
theorem dX4_learn_31 : decode cX4_learn 31 = .ok (.istore_n 2, 1) := by decide +kernel
theorem dX4_learn_32 : decode cX4_learn 32 = .ok (.iload_n 2, 1) := by decide +kernel
theorem dX4_learn_33 : decode cX4_learn 33 = .ok (.aload_n 0, 1) := by decide +kernel
theorem dX4_learn_34 : decode cX4_learn 34 = .ok (.getfield 55, 3) := by decide +kernel
theorem dX4_learn_37 : decode cX4_learn 37 = .ok (.if_icmp .ge 25, 3) := by decide +kernel
theorem dX4_learn_40 : decode cX4_learn 40 = .ok (.iload_n 2, 1) := by decide +kernel
theorem dX4_learn_41 : decode cX4_learn 41 = .ok (.bipush 40, 2) := by decide +kernel
theorem dX4_learn_43 : decode cX4_learn 43 = .ok (.if_icmp .ge 19, 3) := by decide +kernel
theorem dX4_learn_46 : decode cX4_learn 46 = .ok (.aload_n 0, 1) := by decide +kernel
theorem dX4_learn_47 : decode cX4_learn 47 = .ok (.aload_n 0, 1) := by decide +kernel
theorem dX4_learn_48 : decode cX4_learn 48 = .ok (.getfield 9, 3) := by decide +kernel
theorem dX4_learn_51 : decode cX4_learn 51 = .ok (.iload_n 2, 1) := by decide +kernel
theorem dX4_learn_52 : decode cX4_learn 52 = .ok (.iaload, 1) := by decide +kernel
theorem dX4_learn_53 : decode cX4_learn 53 = .ok (.invokevirtual 75, 3) := by decide +kernel
theorem dX4_learn_56 : decode cX4_learn 56 = .ok (.iinc 2 1, 3) := by decide +kernel
theorem dX4_learn_59 : decode cX4_learn 59 = .ok (.goto (-27), 3) := by decide +kernel
theorem dX4_learn_62 : decode cX4_learn 62 = .ok (.return_, 1) := by decide +kernel
set_option maxRecDepth 20000 in
theorem ggX4_putInOrder_X5_at : GoodIn wsX4_putInOrder wsX5_at := goodIn_r _ [6] (by decide +kernel) (by decide +kernel)
set_option maxRecDepth 20000 in
theorem gX4_putInOrder_X5_at_n58 : GoodIn wsX4_putInOrder (wsX5_at) := ggX4_putInOrder_X5_at
set_option maxRecDepth 20000 in
theorem ggX4_putInOrder_X2_stampAt : GoodIn wsX4_putInOrder wsX2_stampAt := goodIn_r _ [11, 12, 4, 5, 6, 26, 27, 28, 29, 30, 31, 32] (by decide +kernel) (by decide +kernel)
set_option maxRecDepth 20000 in
theorem gX4_putInOrder_X2_stampAt : GoodIn wsX4_putInOrder (wsV RX4 79 RX2 yX2_stampAt wsX2_stampAt) := goodIn_app (goodIn_of _ (by decide +kernel)) ggX4_putInOrder_X2_stampAt
set_option maxRecDepth 20000 in
theorem ggX4_putInOrder_X5_put : GoodIn wsX4_putInOrder wsX5_put := goodIn_r _ [14] (by decide +kernel) (by decide +kernel)
set_option maxRecDepth 20000 in
theorem gX4_putInOrder_X5_put_n82 : GoodIn wsX4_putInOrder (wsX5_put) := ggX4_putInOrder_X5_put
theorem dX4_putInOrder_0 : decode cX4_putInOrder 0 = .ok (.aload_n 0, 1) := by decide +kernel
theorem dX4_putInOrder_1 : decode cX4_putInOrder 1 = .ok (.getfield 55, 3) := by decide +kernel
theorem dX4_putInOrder_4 : decode cX4_putInOrder 4 = .ok (.istore_n 2, 1) := by decide +kernel
theorem dX4_putInOrder_5 : decode cX4_putInOrder 5 = .ok (.iload_n 2, 1) := by decide +kernel
theorem dX4_putInOrder_6 : decode cX4_putInOrder 6 = .ok (.ifCond .le 55, 3) := by decide +kernel
theorem dX4_putInOrder_9 : decode cX4_putInOrder 9 = .ok (.aload_n 0, 1) := by decide +kernel
theorem dX4_putInOrder_10 : decode cX4_putInOrder 10 = .ok (.getfield 35, 3) := by decide +kernel
theorem dX4_putInOrder_13 : decode cX4_putInOrder 13 = .ok (.aload_n 0, 1) := by decide +kernel
theorem dX4_putInOrder_14 : decode cX4_putInOrder 14 = .ok (.getfield 9, 3) := by decide +kernel
theorem dX4_putInOrder_17 : decode cX4_putInOrder 17 = .ok (.iload_n 2, 1) := by decide +kernel
theorem dX4_putInOrder_18 : decode cX4_putInOrder 18 = .ok (.iconst 1, 1) := by decide +kernel
theorem dX4_putInOrder_19 : decode cX4_putInOrder 19 = .ok (.isub, 1) := by decide +kernel
theorem dX4_putInOrder_20 : decode cX4_putInOrder 20 = .ok (.invokestatic 58, 3) := by decide +kernel
theorem dX4_putInOrder_23 : decode cX4_putInOrder 23 = .ok (.invokevirtual 79, 3) := by decide +kernel
theorem dX4_putInOrder_26 : decode cX4_putInOrder 26 = .ok (.aload_n 0, 1) := by decide +kernel
theorem dX4_putInOrder_27 : decode cX4_putInOrder 27 = .ok (.getfield 35, 3) := by decide +kernel
theorem dX4_putInOrder_30 : decode cX4_putInOrder 30 = .ok (.iload_n 1, 1) := by decide +kernel
theorem dX4_putInOrder_31 : decode cX4_putInOrder 31 = .ok (.invokevirtual 79, 3) := by decide +kernel
theorem dX4_putInOrder_34 : decode cX4_putInOrder 34 = .ok (.if_icmp .le 27, 3) := by decide +kernel
theorem dX4_putInOrder_37 : decode cX4_putInOrder 37 = .ok (.aload_n 0, 1) := by decide +kernel
theorem dX4_putInOrder_38 : decode cX4_putInOrder 38 = .ok (.getfield 9, 3) := by decide +kernel
theorem dX4_putInOrder_41 : decode cX4_putInOrder 41 = .ok (.iload_n 2, 1) := by decide +kernel
theorem dX4_putInOrder_42 : decode cX4_putInOrder 42 = .ok (.aload_n 0, 1) := by decide +kernel
theorem dX4_putInOrder_43 : decode cX4_putInOrder 43 = .ok (.getfield 9, 3) := by decide +kernel
theorem dX4_putInOrder_46 : decode cX4_putInOrder 46 = .ok (.iload_n 2, 1) := by decide +kernel
theorem dX4_putInOrder_47 : decode cX4_putInOrder 47 = .ok (.iconst 1, 1) := by decide +kernel
theorem dX4_putInOrder_48 : decode cX4_putInOrder 48 = .ok (.isub, 1) := by decide +kernel
theorem dX4_putInOrder_49 : decode cX4_putInOrder 49 = .ok (.invokestatic 58, 3) := by decide +kernel
theorem dX4_putInOrder_52 : decode cX4_putInOrder 52 = .ok (.invokestatic 82, 3) := by decide +kernel
theorem dX4_putInOrder_55 : decode cX4_putInOrder 55 = .ok (.iinc 2 (-1), 3) := by decide +kernel
theorem dX4_putInOrder_58 : decode cX4_putInOrder 58 = .ok (.goto (-53), 3) := by decide +kernel
theorem dX4_putInOrder_61 : decode cX4_putInOrder 61 = .ok (.aload_n 0, 1) := by decide +kernel
theorem dX4_putInOrder_62 : decode cX4_putInOrder 62 = .ok (.getfield 9, 3) := by decide +kernel
theorem dX4_putInOrder_65 : decode cX4_putInOrder 65 = .ok (.iload_n 2, 1) := by decide +kernel
theorem dX4_putInOrder_66 : decode cX4_putInOrder 66 = .ok (.iload_n 1, 1) := by decide +kernel
theorem dX4_putInOrder_67 : decode cX4_putInOrder 67 = .ok (.invokestatic 82, 3) := by decide +kernel
theorem dX4_putInOrder_70 : decode cX4_putInOrder 70 = .ok (.aload_n 0, 1) := by decide +kernel
theorem dX4_putInOrder_71 : decode cX4_putInOrder 71 = .ok (.dup, 1) := by decide +kernel
theorem dX4_putInOrder_72 : decode cX4_putInOrder 72 = .ok (.getfield 55, 3) := by decide +kernel
theorem dX4_putInOrder_75 : decode cX4_putInOrder 75 = .ok (.iconst 1, 1) := by decide +kernel
theorem dX4_putInOrder_76 : decode cX4_putInOrder 76 = .ok (.iadd, 1) := by decide +kernel
theorem dX4_putInOrder_77 : decode cX4_putInOrder 77 = .ok (.putfield 55, 3) := by decide +kernel
theorem dX4_putInOrder_80 : decode cX4_putInOrder 80 = .ok (.iload_n 2, 1) := by decide +kernel
theorem dX4_putInOrder_81 : decode cX4_putInOrder 81 = .ok (.ireturn, 1) := by decide +kernel
set_option maxRecDepth 20000 in
theorem ggX4_perform_X5_at : GoodIn wsX4_perform wsX5_at := goodIn_r _ [4] (by decide +kernel) (by decide +kernel)
set_option maxRecDepth 20000 in
theorem gX4_perform_X5_at_n58 : GoodIn wsX4_perform (wsX5_at) := ggX4_perform_X5_at
set_option maxRecDepth 20000 in
theorem ggX4_perform_X4_performAdding : GoodIn wsX4_perform wsX4_performAdding := goodIn_r _ [9, 10, 11, 12, 13, 14, 15, 16, 8, 17, 18, 19, 20, 21, 22, 23, 24, 25, 26, 27, 28, 29, 67, 68, 69, 70, 71, 72, 73, 74, 75, 76, 77] (by decide +kernel) (by decide +kernel)
set_option maxRecDepth 20000 in
theorem gX4_perform_X4_performAdding : GoodIn wsX4_perform (wsV RX4 101 RX4 yX4_performAdding wsX4_performAdding) := goodIn_app (goodIn_of _ (by decide +kernel)) ggX4_perform_X4_performAdding
set_option maxRecDepth 20000 in
theorem ggX4_perform_X4_performSetting : GoodIn wsX4_perform wsX4_performSetting := goodIn_r _ [33, 34, 19, 20, 21, 8, 22, 10, 35, 36, 37, 38, 39, 12, 2, 3, 4, 40, 41, 42, 43, 44, 45, 46, 47, 48, 49, 50, 67, 68, 69, 70, 71, 72, 73, 74, 75, 76, 77, 85, 86] (by decide +kernel) (by decide +kernel)
set_option maxRecDepth 20000 in
theorem gX4_perform_X4_performSetting : GoodIn wsX4_perform (wsV RX4 105 RX4 yX4_performSetting wsX4_performSetting) := goodIn_app (goodIn_of _ (by decide +kernel)) ggX4_perform_X4_performSetting
set_option maxRecDepth 20000 in
theorem ggX4_perform_X4_performMoving : GoodIn wsX4_perform wsX4_performMoving := goodIn_r _ [54, 11, 19, 20, 21, 8, 22, 10, 55, 56, 57, 58, 59, 60, 61, 62, 18, 2, 3, 4, 14, 15, 16, 17, 23, 24, 25, 26, 27, 28, 29, 67, 68, 69, 70, 71, 72, 73, 74, 75, 76, 77] (by decide +kernel) (by decide +kernel)
set_option maxRecDepth 20000 in
theorem gX4_perform_X4_performMoving : GoodIn wsX4_perform (wsV RX4 109 RX4 yX4_performMoving wsX4_performMoving) := goodIn_app (goodIn_of _ (by decide +kernel)) ggX4_perform_X4_performMoving
set_option maxRecDepth 20000 in
theorem ggX4_perform_X4_performDeleting : GoodIn wsX4_perform wsX4_performDeleting := goodIn_r _ [66, 10, 18, 13, 19, 20, 21, 8, 22, 14, 15, 16, 17, 11, 23, 24, 25, 26, 27, 28, 29, 67, 68, 69, 70, 71, 72, 73, 74, 75, 76, 77] (by decide +kernel) (by decide +kernel)
set_option maxRecDepth 20000 in
theorem gX4_perform_X4_performDeleting : GoodIn wsX4_perform (wsV RX4 112 RX4 yX4_performDeleting wsX4_performDeleting) := goodIn_app (goodIn_of _ (by decide +kernel)) ggX4_perform_X4_performDeleting
theorem dX4_perform_0 : decode cX4_perform 0 = .ok (.aload_n 0, 1) := by decide +kernel
theorem dX4_perform_1 : decode cX4_perform 1 = .ok (.getfield 35, 3) := by decide +kernel
theorem dX4_perform_4 : decode cX4_perform 4 = .ok (.getfield 86, 3) := by decide +kernel
theorem dX4_perform_7 : decode cX4_perform 7 = .ok (.iload_n 1, 1) := by decide +kernel
theorem dX4_perform_8 : decode cX4_perform 8 = .ok (.invokestatic 58, 3) := by decide +kernel
theorem dX4_perform_11 : decode cX4_perform 11 = .ok (.istore_n 2, 1) := by decide +kernel
theorem dX4_perform_12 : decode cX4_perform 12 = .ok (.aload_n 0, 1) := by decide +kernel
theorem dX4_perform_13 : decode cX4_perform 13 = .ok (.getfield 35, 3) := by decide +kernel
theorem dX4_perform_16 : decode cX4_perform 16 = .ok (.getfield 89, 3) := by decide +kernel
theorem dX4_perform_19 : decode cX4_perform 19 = .ok (.iload_n 1, 1) := by decide +kernel
theorem dX4_perform_20 : decode cX4_perform 20 = .ok (.invokestatic 58, 3) := by decide +kernel
theorem dX4_perform_23 : decode cX4_perform 23 = .ok (.istore_n 3, 1) := by decide +kernel
theorem dX4_perform_24 : decode cX4_perform 24 = .ok (.aload_n 0, 1) := by decide +kernel
theorem dX4_perform_25 : decode cX4_perform 25 = .ok (.getfield 35, 3) := by decide +kernel
theorem dX4_perform_28 : decode cX4_perform 28 = .ok (.getfield 92, 3) := by decide +kernel
theorem dX4_perform_31 : decode cX4_perform 31 = .ok (.iload_n 1, 1) := by decide +kernel
theorem dX4_perform_32 : decode cX4_perform 32 = .ok (.invokestatic 58, 3) := by decide +kernel
theorem dX4_perform_35 : decode cX4_perform 35 = .ok (.istore 4, 2) := by decide +kernel
theorem dX4_perform_37 : decode cX4_perform 37 = .ok (.aload_n 0, 1) := by decide +kernel
theorem dX4_perform_38 : decode cX4_perform 38 = .ok (.getfield 35, 3) := by decide +kernel
theorem dX4_perform_41 : decode cX4_perform 41 = .ok (.getfield 95, 3) := by decide +kernel
theorem dX4_perform_44 : decode cX4_perform 44 = .ok (.iload_n 1, 1) := by decide +kernel
theorem dX4_perform_45 : decode cX4_perform 45 = .ok (.invokestatic 58, 3) := by decide +kernel
theorem dX4_perform_48 : decode cX4_perform 48 = .ok (.tableswitch 84 0 3 #[32, 54, 65, 76], 32) := by decide +kernel
theorem dX4_perform_80 : decode cX4_perform 80 = .ok (.aload_n 0, 1) := by decide +kernel
theorem dX4_perform_81 : decode cX4_perform 81 = .ok (.iload_n 2, 1) := by decide +kernel
theorem dX4_perform_82 : decode cX4_perform 82 = .ok (.iload_n 3, 1) := by decide +kernel
theorem dX4_perform_83 : decode cX4_perform 83 = .ok (.iload 4, 2) := by decide +kernel
theorem dX4_perform_85 : decode cX4_perform 85 = .ok (.aload_n 0, 1) := by decide +kernel
theorem dX4_perform_86 : decode cX4_perform 86 = .ok (.getfield 35, 3) := by decide +kernel
theorem dX4_perform_89 : decode cX4_perform 89 = .ok (.getfield 98, 3) := by decide +kernel
theorem dX4_perform_92 : decode cX4_perform 92 = .ok (.iload_n 1, 1) := by decide +kernel
theorem dX4_perform_93 : decode cX4_perform 93 = .ok (.invokestatic 58, 3) := by decide +kernel
theorem dX4_perform_96 : decode cX4_perform 96 = .ok (.invokevirtual 101, 3) := by decide +kernel
theorem dX4_perform_99 : decode cX4_perform 99 = .ok (.goto 33, 3) := by decide +kernel
theorem dX4_perform_102 : decode cX4_perform 102 = .ok (.aload_n 0, 1) := by decide +kernel
theorem dX4_perform_103 : decode cX4_perform 103 = .ok (.iload_n 2, 1) := by decide +kernel
theorem dX4_perform_104 : decode cX4_perform 104 = .ok (.iload_n 3, 1) := by decide +kernel
theorem dX4_perform_105 : decode cX4_perform 105 = .ok (.iload 4, 2) := by decide +kernel
theorem dX4_perform_107 : decode cX4_perform 107 = .ok (.invokevirtual 105, 3) := by decide +kernel
theorem dX4_perform_110 : decode cX4_perform 110 = .ok (.goto 22, 3) := by decide +kernel
theorem dX4_perform_113 : decode cX4_perform 113 = .ok (.aload_n 0, 1) := by decide +kernel
theorem dX4_perform_114 : decode cX4_perform 114 = .ok (.iload_n 2, 1) := by decide +kernel
theorem dX4_perform_115 : decode cX4_perform 115 = .ok (.iload_n 3, 1) := by decide +kernel
theorem dX4_perform_116 : decode cX4_perform 116 = .ok (.iload 4, 2) := by decide +kernel
theorem dX4_perform_118 : decode cX4_perform 118 = .ok (.invokevirtual 109, 3) := by decide +kernel
theorem dX4_perform_121 : decode cX4_perform 121 = .ok (.goto 11, 3) := by decide +kernel
theorem dX4_perform_124 : decode cX4_perform 124 = .ok (.aload_n 0, 1) := by decide +kernel
theorem dX4_perform_125 : decode cX4_perform 125 = .ok (.iload_n 2, 1) := by decide +kernel
theorem dX4_perform_126 : decode cX4_perform 126 = .ok (.invokevirtual 112, 3) := by decide +kernel
theorem dX4_perform_129 : decode cX4_perform 129 = .ok (.goto 3, 3) := by decide +kernel
theorem dX4_perform_132 : decode cX4_perform 132 = .ok (.return_, 1) := by decide +kernel
set_option maxRecDepth 20000 in
theorem ggX4_performAdding_X4_settle : GoodIn wsX4_performAdding wsX4_settle := goodIn_r _ [9, 2, 10, 11, 12, 13, 8, 14, 1, 15, 16, 17, 18, 19, 20, 21, 22, 23, 24, 25, 26, 27, 28, 29, 30, 31, 32] (by decide +kernel) (by decide +kernel)
set_option maxRecDepth 20000 in
theorem gX4_performAdding_X4_settle : GoodIn wsX4_performAdding (wsV RX4 115 RX4 yX4_settle wsX4_settle) := goodIn_app (goodIn_of _ (by decide +kernel)) ggX4_performAdding_X4_settle
theorem dX4_performAdding_0 : decode cX4_performAdding 0 = .ok (.iload_n 1, 1) := by decide +kernel
theorem dX4_performAdding_1 : decode cX4_performAdding 1 = .ok (.ifCond .lt 9, 3) := by decide +kernel
theorem dX4_performAdding_4 : decode cX4_performAdding 4 = .ok (.iload_n 1, 1) := by decide +kernel
theorem dX4_performAdding_5 : decode cX4_performAdding 5 = .ok (.bipush 42, 2) := by decide +kernel
theorem dX4_performAdding_7 : decode cX4_performAdding 7 = .ok (.if_icmp .lt 4, 3) := by decide +kernel
theorem dX4_performAdding_10 : decode cX4_performAdding 10 = .ok (.return_, 1) := by decide +kernel
theorem dX4_performAdding_11 : decode cX4_performAdding 11 = .ok (.aload_n 0, 1) := by decide +kernel
theorem dX4_performAdding_12 : decode cX4_performAdding 12 = .ok (.getfield 15, 3) := by decide +kernel
theorem dX4_performAdding_15 : decode cX4_performAdding 15 = .ok (.iload_n 1, 1) := by decide +kernel
theorem dX4_performAdding_16 : decode cX4_performAdding 16 = .ok (.iconst 1, 1) := by decide +kernel
theorem dX4_performAdding_17 : decode cX4_performAdding 17 = .ok (.bastore, 1) := by decide +kernel
theorem dX4_performAdding_18 : decode cX4_performAdding 18 = .ok (.aload_n 0, 1) := by decide +kernel
theorem dX4_performAdding_19 : decode cX4_performAdding 19 = .ok (.getfield 22, 3) := by decide +kernel
theorem dX4_performAdding_22 : decode cX4_performAdding 22 = .ok (.iload_n 1, 1) := by decide +kernel
theorem dX4_performAdding_23 : decode cX4_performAdding 23 = .ok (.iload_n 3, 1) := by decide +kernel
theorem dX4_performAdding_24 : decode cX4_performAdding 24 = .ok (.iastore, 1) := by decide +kernel
theorem dX4_performAdding_25 : decode cX4_performAdding 25 = .ok (.aload_n 0, 1) := by decide +kernel
theorem dX4_performAdding_26 : decode cX4_performAdding 26 = .ok (.getfield 25, 3) := by decide +kernel
theorem dX4_performAdding_29 : decode cX4_performAdding 29 = .ok (.iload_n 1, 1) := by decide +kernel
theorem dX4_performAdding_30 : decode cX4_performAdding 30 = .ok (.iload 4, 2) := by decide +kernel
theorem dX4_performAdding_32 : decode cX4_performAdding 32 = .ok (.iastore, 1) := by decide +kernel
theorem dX4_performAdding_33 : decode cX4_performAdding 33 = .ok (.aload_n 0, 1) := by decide +kernel
theorem dX4_performAdding_34 : decode cX4_performAdding 34 = .ok (.dup, 1) := by decide +kernel
theorem dX4_performAdding_35 : decode cX4_performAdding 35 = .ok (.getfield 52, 3) := by decide +kernel
theorem dX4_performAdding_38 : decode cX4_performAdding 38 = .ok (.iconst 1, 1) := by decide +kernel
theorem dX4_performAdding_39 : decode cX4_performAdding 39 = .ok (.iadd, 1) := by decide +kernel
theorem dX4_performAdding_40 : decode cX4_performAdding 40 = .ok (.putfield 52, 3) := by decide +kernel
theorem dX4_performAdding_43 : decode cX4_performAdding 43 = .ok (.aload_n 0, 1) := by decide +kernel
theorem dX4_performAdding_44 : decode cX4_performAdding 44 = .ok (.iload_n 1, 1) := by decide +kernel
theorem dX4_performAdding_45 : decode cX4_performAdding 45 = .ok (.iload_n 2, 1) := by decide +kernel
theorem dX4_performAdding_46 : decode cX4_performAdding 46 = .ok (.invokevirtual 115, 3) := by decide +kernel
theorem dX4_performAdding_49 : decode cX4_performAdding 49 = .ok (.return_, 1) := by decide +kernel
set_option maxRecDepth 20000 in
theorem ggX4_performSetting_X4_has : GoodIn wsX4_performSetting wsX4_has := goodIn_r _ [6, 7, 28, 29, 30, 31, 32, 33, 34, 35, 36, 37, 38] (by decide +kernel) (by decide +kernel)
set_option maxRecDepth 20000 in
theorem gX4_performSetting_X4_has : GoodIn wsX4_performSetting (wsV RX4 119 RX4 yX4_has wsX4_has) := goodIn_app (goodIn_of _ (by decide +kernel)) ggX4_performSetting_X4_has
set_option maxRecDepth 20000 in
theorem ggX4_performSetting_X4_mayHold : GoodIn wsX4_performSetting wsX4_mayHold := goodIn_r _ [11, 12, 13, 14, 15, 16, 17, 18, 19, 20, 21, 22, 23, 24, 25, 28, 29, 30, 31, 32, 33, 34, 35, 36, 37, 38, 39, 40] (by decide +kernel) (by decide +kernel)
set_option maxRecDepth 20000 in
theorem gX4_performSetting_X4_mayHold : GoodIn wsX4_performSetting (wsV RX4 123 RX4 yX4_mayHold wsX4_mayHold) := goodIn_app (goodIn_of _ (by decide +kernel)) ggX4_performSetting_X4_mayHold
set_option maxRecDepth 20000 in
theorem ggX4_performSetting_X5_put : GoodIn wsX4_performSetting wsX5_put := goodIn_r _ [27] (by decide +kernel) (by decide +kernel)
set_option maxRecDepth 20000 in
theorem gX4_performSetting_X5_put_n82 : GoodIn wsX4_performSetting (wsX5_put) := ggX4_performSetting_X5_put
theorem dX4_performSetting_0 : decode cX4_performSetting 0 = .ok (.aload_n 0, 1) := by decide +kernel
theorem dX4_performSetting_1 : decode cX4_performSetting 1 = .ok (.iload_n 1, 1) := by decide +kernel
theorem dX4_performSetting_2 : decode cX4_performSetting 2 = .ok (.invokevirtual 119, 3) := by decide +kernel
theorem dX4_performSetting_5 : decode cX4_performSetting 5 = .ok (.ifCond .eq 25, 3) := by decide +kernel
theorem dX4_performSetting_8 : decode cX4_performSetting 8 = .ok (.aload_n 0, 1) := by decide +kernel
theorem dX4_performSetting_9 : decode cX4_performSetting 9 = .ok (.iload_n 1, 1) := by decide +kernel
theorem dX4_performSetting_10 : decode cX4_performSetting 10 = .ok (.iload_n 2, 1) := by decide +kernel
theorem dX4_performSetting_11 : decode cX4_performSetting 11 = .ok (.invokevirtual 123, 3) := by decide +kernel
theorem dX4_performSetting_14 : decode cX4_performSetting 14 = .ok (.ifCond .eq 16, 3) := by decide +kernel
theorem dX4_performSetting_17 : decode cX4_performSetting 17 = .ok (.aload_n 0, 1) := by decide +kernel
theorem dX4_performSetting_18 : decode cX4_performSetting 18 = .ok (.getfield 28, 3) := by decide +kernel
theorem dX4_performSetting_21 : decode cX4_performSetting 21 = .ok (.iload_n 1, 1) := by decide +kernel
theorem dX4_performSetting_22 : decode cX4_performSetting 22 = .ok (.iconst 4, 1) := by decide +kernel
theorem dX4_performSetting_23 : decode cX4_performSetting 23 = .ok (.imul, 1) := by decide +kernel
theorem dX4_performSetting_24 : decode cX4_performSetting 24 = .ok (.iload_n 2, 1) := by decide +kernel
theorem dX4_performSetting_25 : decode cX4_performSetting 25 = .ok (.iadd, 1) := by decide +kernel
theorem dX4_performSetting_26 : decode cX4_performSetting 26 = .ok (.iload_n 3, 1) := by decide +kernel
theorem dX4_performSetting_27 : decode cX4_performSetting 27 = .ok (.invokestatic 82, 3) := by decide +kernel
theorem dX4_performSetting_30 : decode cX4_performSetting 30 = .ok (.return_, 1) := by decide +kernel
set_option maxRecDepth 20000 in
theorem ggX4_performMoving_X4_has : GoodIn wsX4_performMoving wsX4_has := goodIn_r _ [6, 7, 31, 32, 33, 34, 35, 36, 37, 38, 39, 40, 41] (by decide +kernel) (by decide +kernel)
set_option maxRecDepth 20000 in
theorem gX4_performMoving_X4_has : GoodIn wsX4_performMoving (wsV RX4 119 RX4 yX4_has wsX4_has) := goodIn_app (goodIn_of _ (by decide +kernel)) ggX4_performMoving_X4_has
set_option maxRecDepth 20000 in
theorem ggX4_performMoving_X4_isAtOrBelow : GoodIn wsX4_performMoving wsX4_isAtOrBelow := goodIn_r _ [11, 12, 13, 14, 5, 15, 16, 17, 18, 19, 31, 32, 33, 34, 35, 36, 37, 38, 39, 40, 41] (by decide +kernel) (by decide +kernel)
set_option maxRecDepth 20000 in
theorem gX4_performMoving_X4_isAtOrBelow : GoodIn wsX4_performMoving (wsV RX4 127 RX4 yX4_isAtOrBelow wsX4_isAtOrBelow) := goodIn_app (goodIn_of _ (by decide +kernel)) ggX4_performMoving_X4_isAtOrBelow
set_option maxRecDepth 20000 in
theorem ggX4_performMoving_X4_settle : GoodIn wsX4_performMoving wsX4_settle := goodIn_r _ [23, 1, 16, 2, 3, 4, 5, 6, 7, 24, 25, 26, 27, 28, 29, 30, 31, 32, 33, 34, 35, 36, 37, 38, 39, 40, 41] (by decide +kernel) (by decide +kernel)
set_option maxRecDepth 20000 in
theorem gX4_performMoving_X4_settle : GoodIn wsX4_performMoving (wsV RX4 115 RX4 yX4_settle wsX4_settle) := goodIn_app (goodIn_of _ (by decide +kernel)) ggX4_performMoving_X4_settle
theorem dX4_performMoving_0 : decode cX4_performMoving 0 = .ok (.aload_n 0, 1) := by decide +kernel
theorem dX4_performMoving_1 : decode cX4_performMoving 1 = .ok (.iload_n 1, 1) := by decide +kernel
theorem dX4_performMoving_2 : decode cX4_performMoving 2 = .ok (.invokevirtual 119, 3) := by decide +kernel
theorem dX4_performMoving_5 : decode cX4_performMoving 5 = .ok (.ifCond .eq 25, 3) := by decide +kernel
theorem dX4_performMoving_8 : decode cX4_performMoving 8 = .ok (.aload_n 0, 1) := by decide +kernel
theorem dX4_performMoving_9 : decode cX4_performMoving 9 = .ok (.iload_n 2, 1) := by decide +kernel
theorem dX4_performMoving_10 : decode cX4_performMoving 10 = .ok (.iload_n 1, 1) := by decide +kernel
theorem dX4_performMoving_11 : decode cX4_performMoving 11 = .ok (.invokevirtual 127, 3) := by decide +kernel
theorem dX4_performMoving_14 : decode cX4_performMoving 14 = .ok (.ifCond .ne 16, 3) := by decide +kernel
theorem dX4_performMoving_17 : decode cX4_performMoving 17 = .ok (.aload_n 0, 1) := by decide +kernel
theorem dX4_performMoving_18 : decode cX4_performMoving 18 = .ok (.getfield 22, 3) := by decide +kernel
theorem dX4_performMoving_21 : decode cX4_performMoving 21 = .ok (.iload_n 1, 1) := by decide +kernel
theorem dX4_performMoving_22 : decode cX4_performMoving 22 = .ok (.iload_n 3, 1) := by decide +kernel
theorem dX4_performMoving_23 : decode cX4_performMoving 23 = .ok (.iastore, 1) := by decide +kernel
theorem dX4_performMoving_24 : decode cX4_performMoving 24 = .ok (.aload_n 0, 1) := by decide +kernel
theorem dX4_performMoving_25 : decode cX4_performMoving 25 = .ok (.iload_n 1, 1) := by decide +kernel
theorem dX4_performMoving_26 : decode cX4_performMoving 26 = .ok (.iload_n 2, 1) := by decide +kernel
theorem dX4_performMoving_27 : decode cX4_performMoving 27 = .ok (.invokevirtual 115, 3) := by decide +kernel
theorem dX4_performMoving_30 : decode cX4_performMoving 30 = .ok (.return_, 1) := by decide +kernel
set_option maxRecDepth 20000 in
theorem ggX4_performDeleting_X4_has : GoodIn wsX4_performDeleting wsX4_has := goodIn_r _ [8, 1, 21, 22, 23, 24, 25, 26, 27, 28, 29, 30, 31] (by decide +kernel) (by decide +kernel)
set_option maxRecDepth 20000 in
theorem gX4_performDeleting_X4_has : GoodIn wsX4_performDeleting (wsV RX4 119 RX4 yX4_has wsX4_has) := goodIn_app (goodIn_of _ (by decide +kernel)) ggX4_performDeleting_X4_has
set_option maxRecDepth 20000 in
theorem ggX4_performDeleting_X4_settle : GoodIn wsX4_performDeleting wsX4_settle := goodIn_r _ [12, 13, 2, 4, 5, 6, 7, 8, 1, 14, 15, 16, 17, 18, 19, 20, 21, 22, 23, 24, 25, 26, 27, 28, 29, 30, 31] (by decide +kernel) (by decide +kernel)
set_option maxRecDepth 20000 in
theorem gX4_performDeleting_X4_settle : GoodIn wsX4_performDeleting (wsV RX4 115 RX4 yX4_settle wsX4_settle) := goodIn_app (goodIn_of _ (by decide +kernel)) ggX4_performDeleting_X4_settle
theorem dX4_performDeleting_0 : decode cX4_performDeleting 0 = .ok (.aload_n 0, 1) := by decide +kernel
theorem dX4_performDeleting_1 : decode cX4_performDeleting 1 = .ok (.iload_n 1, 1) := by decide +kernel
theorem dX4_performDeleting_2 : decode cX4_performDeleting 2 = .ok (.invokevirtual 119, 3) := by decide +kernel
theorem dX4_performDeleting_5 : decode cX4_performDeleting 5 = .ok (.ifCond .ne 4, 3) := by decide +kernel
theorem dX4_performDeleting_8 : decode cX4_performDeleting 8 = .ok (.return_, 1) := by decide +kernel
theorem dX4_performDeleting_9 : decode cX4_performDeleting 9 = .ok (.aload_n 0, 1) := by decide +kernel
theorem dX4_performDeleting_10 : decode cX4_performDeleting 10 = .ok (.getfield 15, 3) := by decide +kernel
theorem dX4_performDeleting_13 : decode cX4_performDeleting 13 = .ok (.iload_n 1, 1) := by decide +kernel
theorem dX4_performDeleting_14 : decode cX4_performDeleting 14 = .ok (.iconst 0, 1) := by decide +kernel
theorem dX4_performDeleting_15 : decode cX4_performDeleting 15 = .ok (.bastore, 1) := by decide +kernel
theorem dX4_performDeleting_16 : decode cX4_performDeleting 16 = .ok (.aload_n 0, 1) := by decide +kernel
theorem dX4_performDeleting_17 : decode cX4_performDeleting 17 = .ok (.getfield 19, 3) := by decide +kernel
theorem dX4_performDeleting_20 : decode cX4_performDeleting 20 = .ok (.iload_n 1, 1) := by decide +kernel
theorem dX4_performDeleting_21 : decode cX4_performDeleting 21 = .ok (.iconst (-1), 1) := by decide +kernel
theorem dX4_performDeleting_22 : decode cX4_performDeleting 22 = .ok (.iastore, 1) := by decide +kernel
theorem dX4_performDeleting_23 : decode cX4_performDeleting 23 = .ok (.aload_n 0, 1) := by decide +kernel
theorem dX4_performDeleting_24 : decode cX4_performDeleting 24 = .ok (.dup, 1) := by decide +kernel
theorem dX4_performDeleting_25 : decode cX4_performDeleting 25 = .ok (.getfield 52, 3) := by decide +kernel
theorem dX4_performDeleting_28 : decode cX4_performDeleting 28 = .ok (.iconst 1, 1) := by decide +kernel
theorem dX4_performDeleting_29 : decode cX4_performDeleting 29 = .ok (.isub, 1) := by decide +kernel
theorem dX4_performDeleting_30 : decode cX4_performDeleting 30 = .ok (.putfield 52, 3) := by decide +kernel
theorem dX4_performDeleting_33 : decode cX4_performDeleting 33 = .ok (.iconst 0, 1) := by decide +kernel
theorem dX4_performDeleting_34 : decode cX4_performDeleting 34 = .ok (.istore_n 2, 1) := by decide +kernel
theorem dX4_performDeleting_35 : decode cX4_performDeleting 35 = .ok (.iload_n 2, 1) := by decide +kernel
theorem dX4_performDeleting_36 : decode cX4_performDeleting 36 = .ok (.bipush 42, 2) := by decide +kernel
theorem dX4_performDeleting_38 : decode cX4_performDeleting 38 = .ok (.if_icmp .ge 25, 3) := by decide +kernel
theorem dX4_performDeleting_41 : decode cX4_performDeleting 41 = .ok (.aload_n 0, 1) := by decide +kernel
theorem dX4_performDeleting_42 : decode cX4_performDeleting 42 = .ok (.getfield 19, 3) := by decide +kernel
theorem dX4_performDeleting_45 : decode cX4_performDeleting 45 = .ok (.iload_n 2, 1) := by decide +kernel
theorem dX4_performDeleting_46 : decode cX4_performDeleting 46 = .ok (.iaload, 1) := by decide +kernel
theorem dX4_performDeleting_47 : decode cX4_performDeleting 47 = .ok (.iload_n 1, 1) := by decide +kernel
theorem dX4_performDeleting_48 : decode cX4_performDeleting 48 = .ok (.if_icmp .ne 9, 3) := by decide +kernel
theorem dX4_performDeleting_51 : decode cX4_performDeleting 51 = .ok (.aload_n 0, 1) := by decide +kernel
theorem dX4_performDeleting_52 : decode cX4_performDeleting 52 = .ok (.iload_n 2, 1) := by decide +kernel
theorem dX4_performDeleting_53 : decode cX4_performDeleting 53 = .ok (.iconst 1, 1) := by decide +kernel
theorem dX4_performDeleting_54 : decode cX4_performDeleting 54 = .ok (.invokevirtual 115, 3) := by decide +kernel
theorem dX4_performDeleting_57 : decode cX4_performDeleting 57 = .ok (.iinc 2 1, 3) := by decide +kernel
theorem dX4_performDeleting_60 : decode cX4_performDeleting 60 = .ok (.goto (-25), 3) := by decide +kernel
theorem dX4_performDeleting_63 : decode cX4_performDeleting 63 = .ok (.return_, 1) := by decide +kernel
set_option maxRecDepth 20000 in
theorem ggX4_settle_X4_has : GoodIn wsX4_settle wsX4_has := goodIn_r _ [7, 8, 16, 17, 18, 19, 20, 21, 22, 23, 24, 25, 26] (by decide +kernel) (by decide +kernel)
set_option maxRecDepth 20000 in
theorem gX4_settle_X4_has : GoodIn wsX4_settle (wsV RX4 119 RX4 yX4_has wsX4_has) := goodIn_app (goodIn_of _ (by decide +kernel)) ggX4_settle_X4_has
set_option maxRecDepth 20000 in
theorem ggX4_settle_X4_childWithLabelLike : GoodIn wsX4_settle wsX4_childWithLabelLike := goodIn_r _ [12, 2, 1, 13, 14, 6, 15, 16, 17, 18, 19, 20, 21, 22, 23, 24, 25, 26] (by decide +kernel) (by decide +kernel)
set_option maxRecDepth 20000 in
theorem gX4_settle_X4_childWithLabelLike : GoodIn wsX4_settle (wsV RX4 130 RX4 yX4_childWithLabelLike wsX4_childWithLabelLike) := goodIn_app (goodIn_of _ (by decide +kernel)) ggX4_settle_X4_childWithLabelLike
theorem dX4_settle_0 : decode cX4_settle 0 = .ok (.aload_n 0, 1) := by decide +kernel
theorem dX4_settle_1 : decode cX4_settle 1 = .ok (.iload_n 1, 1) := by decide +kernel
theorem dX4_settle_2 : decode cX4_settle 2 = .ok (.invokevirtual 119, 3) := by decide +kernel
theorem dX4_settle_5 : decode cX4_settle 5 = .ok (.ifCond .ne 4, 3) := by decide +kernel
theorem dX4_settle_8 : decode cX4_settle 8 = .ok (.return_, 1) := by decide +kernel
theorem dX4_settle_9 : decode cX4_settle 9 = .ok (.aload_n 0, 1) := by decide +kernel
theorem dX4_settle_10 : decode cX4_settle 10 = .ok (.iload_n 2, 1) := by decide +kernel
theorem dX4_settle_11 : decode cX4_settle 11 = .ok (.invokevirtual 119, 3) := by decide +kernel
theorem dX4_settle_14 : decode cX4_settle 14 = .ok (.ifCond .eq 7, 3) := by decide +kernel
theorem dX4_settle_17 : decode cX4_settle 17 = .ok (.iload_n 2, 1) := by decide +kernel
theorem dX4_settle_18 : decode cX4_settle 18 = .ok (.goto 4, 3) := by decide +kernel
theorem dX4_settle_21 : decode cX4_settle 21 = .ok (.iconst 1, 1) := by decide +kernel
theorem dX4_settle_22 : decode cX4_settle 22 = .ok (.istore_n 3, 1) := by decide +kernel
theorem dX4_settle_23 : decode cX4_settle 23 = .ok (.aload_n 0, 1) := by decide +kernel
theorem dX4_settle_24 : decode cX4_settle 24 = .ok (.iload_n 3, 1) := by decide +kernel
theorem dX4_settle_25 : decode cX4_settle 25 = .ok (.aload_n 0, 1) := by decide +kernel
theorem dX4_settle_26 : decode cX4_settle 26 = .ok (.getfield 22, 3) := by decide +kernel
theorem dX4_settle_29 : decode cX4_settle 29 = .ok (.iload_n 1, 1) := by decide +kernel
theorem dX4_settle_30 : decode cX4_settle 30 = .ok (.iaload, 1) := by decide +kernel
theorem dX4_settle_31 : decode cX4_settle 31 = .ok (.iload_n 1, 1) := by decide +kernel
theorem dX4_settle_32 : decode cX4_settle 32 = .ok (.invokevirtual 130, 3) := by decide +kernel
theorem dX4_settle_35 : decode cX4_settle 35 = .ok (.iconst (-1), 1) := by decide +kernel
theorem dX4_settle_36 : decode cX4_settle 36 = .ok (.if_icmp .eq 10, 3) := by decide +kernel
theorem dX4_settle_39 : decode cX4_settle 39 = .ok (.aload_n 0, 1) := by decide +kernel
theorem dX4_settle_40 : decode cX4_settle 40 = .ok (.getfield 22, 3) := by decide +kernel
theorem dX4_settle_43 : decode cX4_settle 43 = .ok (.iload_n 1, 1) := by decide +kernel
theorem dX4_settle_44 : decode cX4_settle 44 = .ok (.iconst (-1), 1) := by decide +kernel
theorem dX4_settle_45 : decode cX4_settle 45 = .ok (.iastore, 1) := by decide +kernel
theorem dX4_settle_46 : decode cX4_settle 46 = .ok (.aload_n 0, 1) := by decide +kernel
theorem dX4_settle_47 : decode cX4_settle 47 = .ok (.getfield 19, 3) := by decide +kernel
theorem dX4_settle_50 : decode cX4_settle 50 = .ok (.iload_n 1, 1) := by decide +kernel
theorem dX4_settle_51 : decode cX4_settle 51 = .ok (.iload_n 3, 1) := by decide +kernel
theorem dX4_settle_52 : decode cX4_settle 52 = .ok (.iastore, 1) := by decide +kernel
theorem dX4_settle_53 : decode cX4_settle 53 = .ok (.return_, 1) := by decide +kernel
theorem dX4_has_0 : decode cX4_has 0 = .ok (.iload_n 1, 1) := by decide +kernel
theorem dX4_has_1 : decode cX4_has 1 = .ok (.ifCond .lt 22, 3) := by decide +kernel
theorem dX4_has_4 : decode cX4_has 4 = .ok (.iload_n 1, 1) := by decide +kernel
theorem dX4_has_5 : decode cX4_has 5 = .ok (.bipush 42, 2) := by decide +kernel
theorem dX4_has_7 : decode cX4_has 7 = .ok (.if_icmp .ge 16, 3) := by decide +kernel
theorem dX4_has_10 : decode cX4_has 10 = .ok (.aload_n 0, 1) := by decide +kernel
theorem dX4_has_11 : decode cX4_has 11 = .ok (.getfield 15, 3) := by decide +kernel
theorem dX4_has_14 : decode cX4_has 14 = .ok (.iload_n 1, 1) := by decide +kernel
theorem dX4_has_15 : decode cX4_has 15 = .ok (.baload, 1) := by decide +kernel
theorem dX4_has_16 : decode cX4_has 16 = .ok (.ifCond .eq 7, 3) := by decide +kernel
theorem dX4_has_19 : decode cX4_has 19 = .ok (.iconst 1, 1) := by decide +kernel
theorem dX4_has_20 : decode cX4_has 20 = .ok (.goto 4, 3) := by decide +kernel
theorem dX4_has_23 : decode cX4_has 23 = .ok (.iconst 0, 1) := by decide +kernel
theorem dX4_has_24 : decode cX4_has 24 = .ok (.ireturn, 1) := by decide +kernel
set_option maxRecDepth 20000 in
theorem ggX4_parentAt_X5_at : GoodIn wsX4_parentAt wsX5_at := goodIn_r _ [4] (by decide +kernel) (by decide +kernel)
set_option maxRecDepth 20000 in
theorem gX4_parentAt_X5_at_n58 : GoodIn wsX4_parentAt (wsX5_at) := ggX4_parentAt_X5_at
theorem dX4_parentAt_0 : decode cX4_parentAt 0 = .ok (.aload_n 0, 1) := by decide +kernel
theorem dX4_parentAt_1 : decode cX4_parentAt 1 = .ok (.getfield 19, 3) := by decide +kernel
theorem dX4_parentAt_4 : decode cX4_parentAt 4 = .ok (.iload_n 1, 1) := by decide +kernel
theorem dX4_parentAt_5 : decode cX4_parentAt 5 = .ok (.invokestatic 58, 3) := by decide +kernel
theorem dX4_parentAt_8 : decode cX4_parentAt 8 = .ok (.ireturn, 1) := by decide +kernel
set_option maxRecDepth 20000 in
theorem ggX4_labelAt_X5_at : GoodIn wsX4_labelAt wsX5_at := goodIn_r _ [4] (by decide +kernel) (by decide +kernel)
set_option maxRecDepth 20000 in
theorem gX4_labelAt_X5_at_n58 : GoodIn wsX4_labelAt (wsX5_at) := ggX4_labelAt_X5_at
theorem dX4_labelAt_0 : decode cX4_labelAt 0 = .ok (.aload_n 0, 1) := by decide +kernel
theorem dX4_labelAt_1 : decode cX4_labelAt 1 = .ok (.getfield 22, 3) := by decide +kernel
theorem dX4_labelAt_4 : decode cX4_labelAt 4 = .ok (.iload_n 1, 1) := by decide +kernel
theorem dX4_labelAt_5 : decode cX4_labelAt 5 = .ok (.invokestatic 58, 3) := by decide +kernel
theorem dX4_labelAt_8 : decode cX4_labelAt 8 = .ok (.ireturn, 1) := by decide +kernel
set_option maxRecDepth 20000 in
theorem ggX4_valueAt_X5_at : GoodIn wsX4_valueAt wsX5_at := goodIn_r _ [4] (by decide +kernel) (by decide +kernel)
set_option maxRecDepth 20000 in
theorem gX4_valueAt_X5_at_n58 : GoodIn wsX4_valueAt (wsX5_at) := ggX4_valueAt_X5_at
theorem dX4_valueAt_0 : decode cX4_valueAt 0 = .ok (.aload_n 0, 1) := by decide +kernel
theorem dX4_valueAt_1 : decode cX4_valueAt 1 = .ok (.getfield 28, 3) := by decide +kernel
theorem dX4_valueAt_4 : decode cX4_valueAt 4 = .ok (.iload_n 1, 1) := by decide +kernel
theorem dX4_valueAt_5 : decode cX4_valueAt 5 = .ok (.iconst 4, 1) := by decide +kernel
theorem dX4_valueAt_6 : decode cX4_valueAt 6 = .ok (.imul, 1) := by decide +kernel
theorem dX4_valueAt_7 : decode cX4_valueAt 7 = .ok (.iload_n 2, 1) := by decide +kernel
theorem dX4_valueAt_8 : decode cX4_valueAt 8 = .ok (.iadd, 1) := by decide +kernel
theorem dX4_valueAt_9 : decode cX4_valueAt 9 = .ok (.invokestatic 58, 3) := by decide +kernel
theorem dX4_valueAt_12 : decode cX4_valueAt 12 = .ok (.ireturn, 1) := by decide +kernel
set_option maxRecDepth 20000 in
theorem ggX4_mayHold_X5_at : GoodIn wsX4_mayHold wsX5_at := goodIn_r _ [5] (by decide +kernel) (by decide +kernel)
set_option maxRecDepth 20000 in
theorem gX4_mayHold_X5_at_n58 : GoodIn wsX4_mayHold (wsX5_at) := ggX4_mayHold_X5_at
set_option maxRecDepth 20000 in
theorem ggX4_mayHold_X0_allows : GoodIn wsX4_mayHold wsX0_allows := goodIn_r _ [10, 11, 12, 13, 9, 14, 26, 27] (by decide +kernel) (by decide +kernel)
set_option maxRecDepth 20000 in
theorem gX4_mayHold_X0_allows : GoodIn wsX4_mayHold (wsV RX4 134 RX0 yX0_allows wsX0_allows) := goodIn_app (goodIn_of _ (by decide +kernel)) ggX4_mayHold_X0_allows
theorem dX4_mayHold_0 : decode cX4_mayHold 0 = .ok (.aload_n 0, 1) := by decide +kernel
theorem dX4_mayHold_1 : decode cX4_mayHold 1 = .ok (.getfield 39, 3) := by decide +kernel
theorem dX4_mayHold_4 : decode cX4_mayHold 4 = .ok (.aload_n 0, 1) := by decide +kernel
theorem dX4_mayHold_5 : decode cX4_mayHold 5 = .ok (.getfield 25, 3) := by decide +kernel
theorem dX4_mayHold_8 : decode cX4_mayHold 8 = .ok (.iload_n 1, 1) := by decide +kernel
theorem dX4_mayHold_9 : decode cX4_mayHold 9 = .ok (.invokestatic 58, 3) := by decide +kernel
theorem dX4_mayHold_12 : decode cX4_mayHold 12 = .ok (.iload_n 2, 1) := by decide +kernel
theorem dX4_mayHold_13 : decode cX4_mayHold 13 = .ok (.invokevirtual 134, 3) := by decide +kernel
theorem dX4_mayHold_16 : decode cX4_mayHold 16 = .ok (.ireturn, 1) := by decide +kernel
set_option maxRecDepth 20000 in
theorem ggX4_hasAllNeeded_X5_at : GoodIn wsX4_hasAllNeeded wsX5_at := goodIn_r _ [5] (by decide +kernel) (by decide +kernel)
set_option maxRecDepth 20000 in
theorem gX4_hasAllNeeded_X5_at_n58 : GoodIn wsX4_hasAllNeeded (wsX5_at) := ggX4_hasAllNeeded_X5_at
set_option maxRecDepth 20000 in
theorem ggX4_hasAllNeeded_X0_needs : GoodIn wsX4_hasAllNeeded wsX0_needs := goodIn_r _ [10, 11, 12, 13, 9, 14, 32, 33] (by decide +kernel) (by decide +kernel)
set_option maxRecDepth 20000 in
theorem gX4_hasAllNeeded_X0_needs : GoodIn wsX4_hasAllNeeded (wsV RX4 139 RX0 yX0_needs wsX0_needs) := goodIn_app (goodIn_of _ (by decide +kernel)) ggX4_hasAllNeeded_X0_needs
set_option maxRecDepth 20000 in
theorem ggX4_hasAllNeeded_X4_valueAt : GoodIn wsX4_hasAllNeeded wsX4_valueAt := goodIn_r _ [19, 20, 3, 4, 5, 21, 22, 23, 24, 25, 26, 27, 28, 29, 30, 31] (by decide +kernel) (by decide +kernel)
set_option maxRecDepth 20000 in
theorem gX4_hasAllNeeded_X4_valueAt : GoodIn wsX4_hasAllNeeded (wsV RX4 142 RX4 yX4_valueAt wsX4_valueAt) := goodIn_app (goodIn_of _ (by decide +kernel)) ggX4_hasAllNeeded_X4_valueAt
theorem dX4_hasAllNeeded_0 : decode cX4_hasAllNeeded 0 = .ok (.aload_n 0, 1) := by decide +kernel
theorem dX4_hasAllNeeded_1 : decode cX4_hasAllNeeded 1 = .ok (.getfield 25, 3) := by decide +kernel
theorem dX4_hasAllNeeded_4 : decode cX4_hasAllNeeded 4 = .ok (.iload_n 1, 1) := by decide +kernel
theorem dX4_hasAllNeeded_5 : decode cX4_hasAllNeeded 5 = .ok (.invokestatic 58, 3) := by decide +kernel
theorem dX4_hasAllNeeded_8 : decode cX4_hasAllNeeded 8 = .ok (.istore_n 2, 1) := by decide +kernel
theorem dX4_hasAllNeeded_9 : decode cX4_hasAllNeeded 9 = .ok (.iconst 0, 1) := by decide +kernel
theorem dX4_hasAllNeeded_10 : decode cX4_hasAllNeeded 10 = .ok (.istore_n 3, 1) := by decide +kernel
theorem dX4_hasAllNeeded_11 : decode cX4_hasAllNeeded 11 = .ok (.iload_n 3, 1) := by decide +kernel
theorem dX4_hasAllNeeded_12 : decode cX4_hasAllNeeded 12 = .ok (.iconst 4, 1) := by decide +kernel
theorem dX4_hasAllNeeded_13 : decode cX4_hasAllNeeded 13 = .ok (.if_icmp .ge 33, 3) := by decide +kernel
theorem dX4_hasAllNeeded_16 : decode cX4_hasAllNeeded 16 = .ok (.aload_n 0, 1) := by decide +kernel
theorem dX4_hasAllNeeded_17 : decode cX4_hasAllNeeded 17 = .ok (.getfield 39, 3) := by decide +kernel
theorem dX4_hasAllNeeded_20 : decode cX4_hasAllNeeded 20 = .ok (.iload_n 2, 1) := by decide +kernel
theorem dX4_hasAllNeeded_21 : decode cX4_hasAllNeeded 21 = .ok (.iload_n 3, 1) := by decide +kernel
theorem dX4_hasAllNeeded_22 : decode cX4_hasAllNeeded 22 = .ok (.invokevirtual 139, 3) := by decide +kernel
theorem dX4_hasAllNeeded_25 : decode cX4_hasAllNeeded 25 = .ok (.ifCond .eq 15, 3) := by decide +kernel
theorem dX4_hasAllNeeded_28 : decode cX4_hasAllNeeded 28 = .ok (.aload_n 0, 1) := by decide +kernel
theorem dX4_hasAllNeeded_29 : decode cX4_hasAllNeeded 29 = .ok (.iload_n 1, 1) := by decide +kernel
theorem dX4_hasAllNeeded_30 : decode cX4_hasAllNeeded 30 = .ok (.iload_n 3, 1) := by decide +kernel
theorem dX4_hasAllNeeded_31 : decode cX4_hasAllNeeded 31 = .ok (.invokevirtual 142, 3) := by decide +kernel
theorem dX4_hasAllNeeded_34 : decode cX4_hasAllNeeded 34 = .ok (.iconst (-1), 1) := by decide +kernel
theorem dX4_hasAllNeeded_35 : decode cX4_hasAllNeeded 35 = .ok (.if_icmp .ne 5, 3) := by decide +kernel
theorem dX4_hasAllNeeded_38 : decode cX4_hasAllNeeded 38 = .ok (.iconst 0, 1) := by decide +kernel
theorem dX4_hasAllNeeded_39 : decode cX4_hasAllNeeded 39 = .ok (.ireturn, 1) := by decide +kernel
theorem dX4_hasAllNeeded_40 : decode cX4_hasAllNeeded 40 = .ok (.iinc 3 1, 3) := by decide +kernel
theorem dX4_hasAllNeeded_43 : decode cX4_hasAllNeeded 43 = .ok (.goto (-32), 3) := by decide +kernel
theorem dX4_hasAllNeeded_46 : decode cX4_hasAllNeeded 46 = .ok (.iconst 1, 1) := by decide +kernel
theorem dX4_hasAllNeeded_47 : decode cX4_hasAllNeeded 47 = .ok (.ireturn, 1) := by decide +kernel
set_option maxRecDepth 20000 in
theorem ggX4_isAtOrBelow_X4_parentAt : GoodIn wsX4_isAtOrBelow wsX4_parentAt := goodIn_r _ [5, 6, 7, 8, 9, 10, 11, 12, 13, 14, 15, 16, 17, 18, 19, 20] (by decide +kernel) (by decide +kernel)
set_option maxRecDepth 20000 in
theorem gX4_isAtOrBelow_X4_parentAt : GoodIn wsX4_isAtOrBelow (wsV RX4 145 RX4 yX4_parentAt wsX4_parentAt) := goodIn_app (goodIn_of _ (by decide +kernel)) ggX4_isAtOrBelow_X4_parentAt
theorem dX4_isAtOrBelow_0 : decode cX4_isAtOrBelow 0 = .ok (.iload_n 1, 1) := by decide +kernel
theorem dX4_isAtOrBelow_1 : decode cX4_isAtOrBelow 1 = .ok (.istore_n 3, 1) := by decide +kernel
theorem dX4_isAtOrBelow_2 : decode cX4_isAtOrBelow 2 = .ok (.iconst 0, 1) := by decide +kernel
theorem dX4_isAtOrBelow_3 : decode cX4_isAtOrBelow 3 = .ok (.istore 4, 2) := by decide +kernel
theorem dX4_isAtOrBelow_5 : decode cX4_isAtOrBelow 5 = .ok (.iload 4, 2) := by decide +kernel
theorem dX4_isAtOrBelow_7 : decode cX4_isAtOrBelow 7 = .ok (.bipush 42, 2) := by decide +kernel
theorem dX4_isAtOrBelow_9 : decode cX4_isAtOrBelow 9 = .ok (.if_icmp .ge 27, 3) := by decide +kernel
theorem dX4_isAtOrBelow_12 : decode cX4_isAtOrBelow 12 = .ok (.iload_n 3, 1) := by decide +kernel
theorem dX4_isAtOrBelow_13 : decode cX4_isAtOrBelow 13 = .ok (.iconst (-1), 1) := by decide +kernel
theorem dX4_isAtOrBelow_14 : decode cX4_isAtOrBelow 14 = .ok (.if_icmp .eq 22, 3) := by decide +kernel
theorem dX4_isAtOrBelow_17 : decode cX4_isAtOrBelow 17 = .ok (.iload_n 3, 1) := by decide +kernel
theorem dX4_isAtOrBelow_18 : decode cX4_isAtOrBelow 18 = .ok (.iload_n 2, 1) := by decide +kernel
theorem dX4_isAtOrBelow_19 : decode cX4_isAtOrBelow 19 = .ok (.if_icmp .ne 5, 3) := by decide +kernel
theorem dX4_isAtOrBelow_22 : decode cX4_isAtOrBelow 22 = .ok (.iconst 1, 1) := by decide +kernel
theorem dX4_isAtOrBelow_23 : decode cX4_isAtOrBelow 23 = .ok (.ireturn, 1) := by decide +kernel
theorem dX4_isAtOrBelow_24 : decode cX4_isAtOrBelow 24 = .ok (.aload_n 0, 1) := by decide +kernel
theorem dX4_isAtOrBelow_25 : decode cX4_isAtOrBelow 25 = .ok (.iload_n 3, 1) := by decide +kernel
theorem dX4_isAtOrBelow_26 : decode cX4_isAtOrBelow 26 = .ok (.invokevirtual 145, 3) := by decide +kernel
theorem dX4_isAtOrBelow_29 : decode cX4_isAtOrBelow 29 = .ok (.istore_n 3, 1) := by decide +kernel
theorem dX4_isAtOrBelow_30 : decode cX4_isAtOrBelow 30 = .ok (.iinc 4 1, 3) := by decide +kernel
theorem dX4_isAtOrBelow_33 : decode cX4_isAtOrBelow 33 = .ok (.goto (-28), 3) := by decide +kernel
theorem dX4_isAtOrBelow_36 : decode cX4_isAtOrBelow 36 = .ok (.iconst 0, 1) := by decide +kernel
theorem dX4_isAtOrBelow_37 : decode cX4_isAtOrBelow 37 = .ok (.ireturn, 1) := by decide +kernel
theorem dX4_hasChild_0 : decode cX4_hasChild 0 = .ok (.iconst 0, 1) := by decide +kernel
theorem dX4_hasChild_1 : decode cX4_hasChild 1 = .ok (.istore_n 2, 1) := by decide +kernel
theorem dX4_hasChild_2 : decode cX4_hasChild 2 = .ok (.iload_n 2, 1) := by decide +kernel
theorem dX4_hasChild_3 : decode cX4_hasChild 3 = .ok (.bipush 42, 2) := by decide +kernel
theorem dX4_hasChild_5 : decode cX4_hasChild 5 = .ok (.if_icmp .ge 21, 3) := by decide +kernel
theorem dX4_hasChild_8 : decode cX4_hasChild 8 = .ok (.aload_n 0, 1) := by decide +kernel
theorem dX4_hasChild_9 : decode cX4_hasChild 9 = .ok (.getfield 19, 3) := by decide +kernel
theorem dX4_hasChild_12 : decode cX4_hasChild 12 = .ok (.iload_n 2, 1) := by decide +kernel
theorem dX4_hasChild_13 : decode cX4_hasChild 13 = .ok (.iaload, 1) := by decide +kernel
theorem dX4_hasChild_14 : decode cX4_hasChild 14 = .ok (.iload_n 1, 1) := by decide +kernel
theorem dX4_hasChild_15 : decode cX4_hasChild 15 = .ok (.if_icmp .ne 5, 3) := by decide +kernel
theorem dX4_hasChild_18 : decode cX4_hasChild 18 = .ok (.iconst 1, 1) := by decide +kernel
theorem dX4_hasChild_19 : decode cX4_hasChild 19 = .ok (.ireturn, 1) := by decide +kernel
theorem dX4_hasChild_20 : decode cX4_hasChild 20 = .ok (.iinc 2 1, 3) := by decide +kernel
theorem dX4_hasChild_23 : decode cX4_hasChild 23 = .ok (.goto (-21), 3) := by decide +kernel
theorem dX4_hasChild_26 : decode cX4_hasChild 26 = .ok (.iconst 0, 1) := by decide +kernel
theorem dX4_hasChild_27 : decode cX4_hasChild 27 = .ok (.ireturn, 1) := by decide +kernel
set_option maxRecDepth 20000 in
theorem ggX4_childWithLabelLike_X4_areLike : GoodIn wsX4_childWithLabelLike wsX4_areLike := goodIn_r _ [6] (by decide +kernel) (by decide +kernel)
set_option maxRecDepth 20000 in
theorem gX4_childWithLabelLike_X4_areLike : GoodIn wsX4_childWithLabelLike (va_wsS RX4 148 yX4_areLike wsX4_areLike) := goodIn_app (goodIn_of _ (by decide +kernel)) ggX4_childWithLabelLike_X4_areLike
theorem dX4_childWithLabelLike_0 : decode cX4_childWithLabelLike 0 = .ok (.iconst 0, 1) := by decide +kernel
theorem dX4_childWithLabelLike_1 : decode cX4_childWithLabelLike 1 = .ok (.istore 4, 2) := by decide +kernel
theorem dX4_childWithLabelLike_3 : decode cX4_childWithLabelLike 3 = .ok (.iload 4, 2) := by decide +kernel
theorem dX4_childWithLabelLike_5 : decode cX4_childWithLabelLike 5 = .ok (.bipush 42, 2) := by decide +kernel
theorem dX4_childWithLabelLike_7 : decode cX4_childWithLabelLike 7 = .ok (.if_icmp .ge 43, 3) := by decide +kernel
theorem dX4_childWithLabelLike_10 : decode cX4_childWithLabelLike 10 = .ok (.aload_n 0, 1) := by decide +kernel
theorem dX4_childWithLabelLike_11 : decode cX4_childWithLabelLike 11 = .ok (.getfield 19, 3) := by decide +kernel
theorem dX4_childWithLabelLike_14 : decode cX4_childWithLabelLike 14 = .ok (.iload 4, 2) := by decide +kernel
theorem dX4_childWithLabelLike_16 : decode cX4_childWithLabelLike 16 = .ok (.iaload, 1) := by decide +kernel
theorem dX4_childWithLabelLike_17 : decode cX4_childWithLabelLike 17 = .ok (.iload_n 1, 1) := by decide +kernel
theorem dX4_childWithLabelLike_18 : decode cX4_childWithLabelLike 18 = .ok (.if_icmp .ne 26, 3) := by decide +kernel
theorem dX4_childWithLabelLike_21 : decode cX4_childWithLabelLike 21 = .ok (.iload 4, 2) := by decide +kernel
theorem dX4_childWithLabelLike_23 : decode cX4_childWithLabelLike 23 = .ok (.iload_n 3, 1) := by decide +kernel
theorem dX4_childWithLabelLike_24 : decode cX4_childWithLabelLike 24 = .ok (.if_icmp .eq 20, 3) := by decide +kernel
theorem dX4_childWithLabelLike_27 : decode cX4_childWithLabelLike 27 = .ok (.aload_n 0, 1) := by decide +kernel
theorem dX4_childWithLabelLike_28 : decode cX4_childWithLabelLike 28 = .ok (.getfield 22, 3) := by decide +kernel
theorem dX4_childWithLabelLike_31 : decode cX4_childWithLabelLike 31 = .ok (.iload 4, 2) := by decide +kernel
theorem dX4_childWithLabelLike_33 : decode cX4_childWithLabelLike 33 = .ok (.iaload, 1) := by decide +kernel
theorem dX4_childWithLabelLike_34 : decode cX4_childWithLabelLike 34 = .ok (.iload_n 2, 1) := by decide +kernel
theorem dX4_childWithLabelLike_35 : decode cX4_childWithLabelLike 35 = .ok (.invokestatic 148, 3) := by decide +kernel
theorem dX4_childWithLabelLike_38 : decode cX4_childWithLabelLike 38 = .ok (.ifCond .eq 6, 3) := by decide +kernel
theorem dX4_childWithLabelLike_41 : decode cX4_childWithLabelLike 41 = .ok (.iload 4, 2) := by decide +kernel
theorem dX4_childWithLabelLike_43 : decode cX4_childWithLabelLike 43 = .ok (.ireturn, 1) := by decide +kernel
theorem dX4_childWithLabelLike_44 : decode cX4_childWithLabelLike 44 = .ok (.iinc 4 1, 3) := by decide +kernel
theorem dX4_childWithLabelLike_47 : decode cX4_childWithLabelLike 47 = .ok (.goto (-44), 3) := by decide +kernel
theorem dX4_childWithLabelLike_50 : decode cX4_childWithLabelLike 50 = .ok (.iconst (-1), 1) := by decide +kernel
theorem dX4_childWithLabelLike_51 : decode cX4_childWithLabelLike 51 = .ok (.ireturn, 1) := by decide +kernel
theorem dX4_areLike_0 : decode cX4_areLike 0 = .ok (.iload_n 0, 1) := by decide +kernel
theorem dX4_areLike_1 : decode cX4_areLike 1 = .ok (.iconst (-1), 1) := by decide +kernel
theorem dX4_areLike_2 : decode cX4_areLike 2 = .ok (.if_icmp .eq 23, 3) := by decide +kernel
theorem dX4_areLike_5 : decode cX4_areLike 5 = .ok (.iload_n 1, 1) := by decide +kernel
theorem dX4_areLike_6 : decode cX4_areLike 6 = .ok (.iconst (-1), 1) := by decide +kernel
theorem dX4_areLike_7 : decode cX4_areLike 7 = .ok (.if_icmp .eq 18, 3) := by decide +kernel
theorem dX4_areLike_10 : decode cX4_areLike 10 = .ok (.iload_n 0, 1) := by decide +kernel
theorem dX4_areLike_11 : decode cX4_areLike 11 = .ok (.bipush 50, 2) := by decide +kernel
theorem dX4_areLike_13 : decode cX4_areLike 13 = .ok (.irem, 1) := by decide +kernel
theorem dX4_areLike_14 : decode cX4_areLike 14 = .ok (.iload_n 1, 1) := by decide +kernel
theorem dX4_areLike_15 : decode cX4_areLike 15 = .ok (.bipush 50, 2) := by decide +kernel
theorem dX4_areLike_17 : decode cX4_areLike 17 = .ok (.irem, 1) := by decide +kernel
theorem dX4_areLike_18 : decode cX4_areLike 18 = .ok (.if_icmp .ne 7, 3) := by decide +kernel
theorem dX4_areLike_21 : decode cX4_areLike 21 = .ok (.iconst 1, 1) := by decide +kernel
theorem dX4_areLike_22 : decode cX4_areLike 22 = .ok (.goto 4, 3) := by decide +kernel
theorem dX4_areLike_25 : decode cX4_areLike 25 = .ok (.iconst 0, 1) := by decide +kernel
theorem dX4_areLike_26 : decode cX4_areLike 26 = .ok (.ireturn, 1) := by decide +kernel
set_option maxRecDepth 20000 in
theorem ggX4_isSameAs_X4_hasSameEntry : GoodIn wsX4_isSameAs wsX4_hasSameEntry := goodIn_r _ [6, 7, 8, 9, 10, 5, 11, 12, 13, 14, 15, 16, 17, 18, 19, 20, 21, 22, 23, 24, 25, 26, 27, 28, 29, 30, 31, 32, 33, 34, 35, 36] (by decide +kernel) (by decide +kernel)
set_option maxRecDepth 20000 in
theorem gX4_isSameAs_X4_hasSameEntry : GoodIn wsX4_isSameAs (wsV RX4 151 RX4 yX4_hasSameEntry wsX4_hasSameEntry) := goodIn_app (goodIn_of _ (by decide +kernel)) ggX4_isSameAs_X4_hasSameEntry
theorem dX4_isSameAs_0 : decode cX4_isSameAs 0 = .ok (.iconst 0, 1) := by decide +kernel
theorem dX4_isSameAs_1 : decode cX4_isSameAs 1 = .ok (.istore_n 2, 1) := by decide +kernel
theorem dX4_isSameAs_2 : decode cX4_isSameAs 2 = .ok (.iload_n 2, 1) := by decide +kernel
theorem dX4_isSameAs_3 : decode cX4_isSameAs 3 = .ok (.bipush 42, 2) := by decide +kernel
theorem dX4_isSameAs_5 : decode cX4_isSameAs 5 = .ok (.if_icmp .ge 46, 3) := by decide +kernel
theorem dX4_isSameAs_8 : decode cX4_isSameAs 8 = .ok (.aload_n 0, 1) := by decide +kernel
theorem dX4_isSameAs_9 : decode cX4_isSameAs 9 = .ok (.getfield 15, 3) := by decide +kernel
theorem dX4_isSameAs_12 : decode cX4_isSameAs 12 = .ok (.iload_n 2, 1) := by decide +kernel
theorem dX4_isSameAs_13 : decode cX4_isSameAs 13 = .ok (.baload, 1) := by decide +kernel
theorem dX4_isSameAs_14 : decode cX4_isSameAs 14 = .ok (.aload_n 1, 1) := by decide +kernel
theorem dX4_isSameAs_15 : decode cX4_isSameAs 15 = .ok (.getfield 15, 3) := by decide +kernel
theorem dX4_isSameAs_18 : decode cX4_isSameAs 18 = .ok (.iload_n 2, 1) := by decide +kernel
theorem dX4_isSameAs_19 : decode cX4_isSameAs 19 = .ok (.baload, 1) := by decide +kernel
theorem dX4_isSameAs_20 : decode cX4_isSameAs 20 = .ok (.if_icmp .eq 5, 3) := by decide +kernel
theorem dX4_isSameAs_23 : decode cX4_isSameAs 23 = .ok (.iconst 0, 1) := by decide +kernel
theorem dX4_isSameAs_24 : decode cX4_isSameAs 24 = .ok (.ireturn, 1) := by decide +kernel
theorem dX4_isSameAs_25 : decode cX4_isSameAs 25 = .ok (.aload_n 0, 1) := by decide +kernel
theorem dX4_isSameAs_26 : decode cX4_isSameAs 26 = .ok (.getfield 15, 3) := by decide +kernel
theorem dX4_isSameAs_29 : decode cX4_isSameAs 29 = .ok (.iload_n 2, 1) := by decide +kernel
theorem dX4_isSameAs_30 : decode cX4_isSameAs 30 = .ok (.baload, 1) := by decide +kernel
theorem dX4_isSameAs_31 : decode cX4_isSameAs 31 = .ok (.ifCond .eq 14, 3) := by decide +kernel
theorem dX4_isSameAs_34 : decode cX4_isSameAs 34 = .ok (.aload_n 0, 1) := by decide +kernel
theorem dX4_isSameAs_35 : decode cX4_isSameAs 35 = .ok (.aload_n 1, 1) := by decide +kernel
theorem dX4_isSameAs_36 : decode cX4_isSameAs 36 = .ok (.iload_n 2, 1) := by decide +kernel
theorem dX4_isSameAs_37 : decode cX4_isSameAs 37 = .ok (.invokevirtual 151, 3) := by decide +kernel
theorem dX4_isSameAs_40 : decode cX4_isSameAs 40 = .ok (.ifCond .ne 5, 3) := by decide +kernel
theorem dX4_isSameAs_43 : decode cX4_isSameAs 43 = .ok (.iconst 0, 1) := by decide +kernel
theorem dX4_isSameAs_44 : decode cX4_isSameAs 44 = .ok (.ireturn, 1) := by decide +kernel
theorem dX4_isSameAs_45 : decode cX4_isSameAs 45 = .ok (.iinc 2 1, 3) := by decide +kernel
theorem dX4_isSameAs_48 : decode cX4_isSameAs 48 = .ok (.goto (-46), 3) := by decide +kernel
theorem dX4_isSameAs_51 : decode cX4_isSameAs 51 = .ok (.iconst 1, 1) := by decide +kernel
theorem dX4_isSameAs_52 : decode cX4_isSameAs 52 = .ok (.ireturn, 1) := by decide +kernel
set_option maxRecDepth 20000 in
theorem ggX4_hasSameEntry_X4_valueAt : GoodIn wsX4_hasSameEntry wsX4_valueAt := goodIn_r _ [6, 7, 8, 9, 10, 21, 22, 23, 24, 25, 26, 27, 28, 29, 30, 31] (by decide +kernel) (by decide +kernel)
set_option maxRecDepth 20000 in
theorem gX4_hasSameEntry_X4_valueAt : GoodIn wsX4_hasSameEntry (wsV RX4 142 RX4 yX4_valueAt wsX4_valueAt) := goodIn_app (goodIn_of _ (by decide +kernel)) ggX4_hasSameEntry_X4_valueAt
set_option maxRecDepth 20000 in
theorem ggX4_hasSameEntry_X4_parentAt : GoodIn wsX4_hasSameEntry wsX4_parentAt := goodIn_r _ [14, 15, 8, 9, 10, 21, 22, 23, 24, 25, 26, 27, 28, 29, 30, 31] (by decide +kernel) (by decide +kernel)
set_option maxRecDepth 20000 in
theorem gX4_hasSameEntry_X4_parentAt : GoodIn wsX4_hasSameEntry (wsV RX4 145 RX4 yX4_parentAt wsX4_parentAt) := goodIn_app (goodIn_of _ (by decide +kernel)) ggX4_hasSameEntry_X4_parentAt
set_option maxRecDepth 20000 in
theorem ggX4_hasSameEntry_X4_labelAt : GoodIn wsX4_hasSameEntry wsX4_labelAt := goodIn_r _ [19, 20, 8, 9, 10, 21, 22, 23, 24, 25, 26, 27, 28, 29, 30, 31] (by decide +kernel) (by decide +kernel)
set_option maxRecDepth 20000 in
theorem gX4_hasSameEntry_X4_labelAt : GoodIn wsX4_hasSameEntry (wsV RX4 155 RX4 yX4_labelAt wsX4_labelAt) := goodIn_app (goodIn_of _ (by decide +kernel)) ggX4_hasSameEntry_X4_labelAt
set_option maxRecDepth 20000 in
theorem ggX4_hasSameEntry_X5_at : GoodIn wsX4_hasSameEntry wsX5_at := goodIn_r _ [10] (by decide +kernel) (by decide +kernel)
set_option maxRecDepth 20000 in
theorem gX4_hasSameEntry_X5_at_n58 : GoodIn wsX4_hasSameEntry (wsX5_at) := ggX4_hasSameEntry_X5_at
theorem dX4_hasSameEntry_0 : decode cX4_hasSameEntry 0 = .ok (.iconst 0, 1) := by decide +kernel
theorem dX4_hasSameEntry_1 : decode cX4_hasSameEntry 1 = .ok (.istore_n 3, 1) := by decide +kernel
theorem dX4_hasSameEntry_2 : decode cX4_hasSameEntry 2 = .ok (.iload_n 3, 1) := by decide +kernel
theorem dX4_hasSameEntry_3 : decode cX4_hasSameEntry 3 = .ok (.iconst 4, 1) := by decide +kernel
theorem dX4_hasSameEntry_4 : decode cX4_hasSameEntry 4 = .ok (.if_icmp .ge 26, 3) := by decide +kernel
theorem dX4_hasSameEntry_7 : decode cX4_hasSameEntry 7 = .ok (.aload_n 0, 1) := by decide +kernel
theorem dX4_hasSameEntry_8 : decode cX4_hasSameEntry 8 = .ok (.iload_n 2, 1) := by decide +kernel
theorem dX4_hasSameEntry_9 : decode cX4_hasSameEntry 9 = .ok (.iload_n 3, 1) := by decide +kernel
theorem dX4_hasSameEntry_10 : decode cX4_hasSameEntry 10 = .ok (.invokevirtual 142, 3) := by decide +kernel
theorem dX4_hasSameEntry_13 : decode cX4_hasSameEntry 13 = .ok (.aload_n 1, 1) := by decide +kernel
theorem dX4_hasSameEntry_14 : decode cX4_hasSameEntry 14 = .ok (.iload_n 2, 1) := by decide +kernel
theorem dX4_hasSameEntry_15 : decode cX4_hasSameEntry 15 = .ok (.iload_n 3, 1) := by decide +kernel
theorem dX4_hasSameEntry_16 : decode cX4_hasSameEntry 16 = .ok (.invokevirtual 142, 3) := by decide +kernel
theorem dX4_hasSameEntry_19 : decode cX4_hasSameEntry 19 = .ok (.if_icmp .eq 5, 3) := by decide +kernel
theorem dX4_hasSameEntry_22 : decode cX4_hasSameEntry 22 = .ok (.iconst 0, 1) := by decide +kernel
theorem dX4_hasSameEntry_23 : decode cX4_hasSameEntry 23 = .ok (.ireturn, 1) := by decide +kernel
theorem dX4_hasSameEntry_24 : decode cX4_hasSameEntry 24 = .ok (.iinc 3 1, 3) := by decide +kernel
theorem dX4_hasSameEntry_27 : decode cX4_hasSameEntry 27 = .ok (.goto (-25), 3) := by decide +kernel
theorem dX4_hasSameEntry_30 : decode cX4_hasSameEntry 30 = .ok (.aload_n 0, 1) := by decide +kernel
theorem dX4_hasSameEntry_31 : decode cX4_hasSameEntry 31 = .ok (.iload_n 2, 1) := by decide +kernel
theorem dX4_hasSameEntry_32 : decode cX4_hasSameEntry 32 = .ok (.invokevirtual 145, 3) := by decide +kernel
theorem dX4_hasSameEntry_35 : decode cX4_hasSameEntry 35 = .ok (.aload_n 1, 1) := by decide +kernel
theorem dX4_hasSameEntry_36 : decode cX4_hasSameEntry 36 = .ok (.iload_n 2, 1) := by decide +kernel
theorem dX4_hasSameEntry_37 : decode cX4_hasSameEntry 37 = .ok (.invokevirtual 145, 3) := by decide +kernel
theorem dX4_hasSameEntry_40 : decode cX4_hasSameEntry 40 = .ok (.if_icmp .ne 39, 3) := by decide +kernel
theorem dX4_hasSameEntry_43 : decode cX4_hasSameEntry 43 = .ok (.aload_n 0, 1) := by decide +kernel
theorem dX4_hasSameEntry_44 : decode cX4_hasSameEntry 44 = .ok (.iload_n 2, 1) := by decide +kernel
theorem dX4_hasSameEntry_45 : decode cX4_hasSameEntry 45 = .ok (.invokevirtual 155, 3) := by decide +kernel
theorem dX4_hasSameEntry_48 : decode cX4_hasSameEntry 48 = .ok (.aload_n 1, 1) := by decide +kernel
theorem dX4_hasSameEntry_49 : decode cX4_hasSameEntry 49 = .ok (.iload_n 2, 1) := by decide +kernel
theorem dX4_hasSameEntry_50 : decode cX4_hasSameEntry 50 = .ok (.invokevirtual 155, 3) := by decide +kernel
theorem dX4_hasSameEntry_53 : decode cX4_hasSameEntry 53 = .ok (.if_icmp .ne 26, 3) := by decide +kernel
theorem dX4_hasSameEntry_56 : decode cX4_hasSameEntry 56 = .ok (.aload_n 0, 1) := by decide +kernel
theorem dX4_hasSameEntry_57 : decode cX4_hasSameEntry 57 = .ok (.getfield 25, 3) := by decide +kernel
theorem dX4_hasSameEntry_60 : decode cX4_hasSameEntry 60 = .ok (.iload_n 2, 1) := by decide +kernel
theorem dX4_hasSameEntry_61 : decode cX4_hasSameEntry 61 = .ok (.invokestatic 58, 3) := by decide +kernel
theorem dX4_hasSameEntry_64 : decode cX4_hasSameEntry 64 = .ok (.aload_n 1, 1) := by decide +kernel
theorem dX4_hasSameEntry_65 : decode cX4_hasSameEntry 65 = .ok (.getfield 25, 3) := by decide +kernel
theorem dX4_hasSameEntry_68 : decode cX4_hasSameEntry 68 = .ok (.iload_n 2, 1) := by decide +kernel
theorem dX4_hasSameEntry_69 : decode cX4_hasSameEntry 69 = .ok (.invokestatic 58, 3) := by decide +kernel
theorem dX4_hasSameEntry_72 : decode cX4_hasSameEntry 72 = .ok (.if_icmp .ne 7, 3) := by decide +kernel
theorem dX4_hasSameEntry_75 : decode cX4_hasSameEntry 75 = .ok (.iconst 1, 1) := by decide +kernel
theorem dX4_hasSameEntry_76 : decode cX4_hasSameEntry 76 = .ok (.goto 4, 3) := by decide +kernel
theorem dX4_hasSameEntry_79 : decode cX4_hasSameEntry 79 = .ok (.iconst 0, 1) := by decide +kernel
theorem dX4_hasSameEntry_80 : decode cX4_hasSameEntry 80 = .ok (.ireturn, 1) := by decide +kernel
set_option maxRecDepth 20000 in
theorem ggX4_orderUnderParent_X4_labelAt : GoodIn wsX4_orderUnderParent wsX4_labelAt := goodIn_r _ [5, 6, 7, 8, 9, 10, 11, 12, 13, 14, 15, 16, 17, 18, 19, 20] (by decide +kernel) (by decide +kernel)
set_option maxRecDepth 20000 in
theorem gX4_orderUnderParent_X4_labelAt : GoodIn wsX4_orderUnderParent (wsV RX4 155 RX4 yX4_labelAt wsX4_labelAt) := goodIn_app (goodIn_of _ (by decide +kernel)) ggX4_orderUnderParent_X4_labelAt
theorem dX4_orderUnderParent_0 : decode cX4_orderUnderParent 0 = .ok (.aload_n 0, 1) := by decide +kernel
theorem dX4_orderUnderParent_1 : decode cX4_orderUnderParent 1 = .ok (.iload_n 1, 1) := by decide +kernel
theorem dX4_orderUnderParent_2 : decode cX4_orderUnderParent 2 = .ok (.invokevirtual 155, 3) := by decide +kernel
theorem dX4_orderUnderParent_5 : decode cX4_orderUnderParent 5 = .ok (.istore_n 2, 1) := by decide +kernel
theorem dX4_orderUnderParent_6 : decode cX4_orderUnderParent 6 = .ok (.iload_n 2, 1) := by decide +kernel
theorem dX4_orderUnderParent_7 : decode cX4_orderUnderParent 7 = .ok (.iconst (-1), 1) := by decide +kernel
theorem dX4_orderUnderParent_8 : decode cX4_orderUnderParent 8 = .ok (.if_icmp .eq 7, 3) := by decide +kernel
theorem dX4_orderUnderParent_11 : decode cX4_orderUnderParent 11 = .ok (.iload_n 2, 1) := by decide +kernel
theorem dX4_orderUnderParent_12 : decode cX4_orderUnderParent 12 = .ok (.goto 7, 3) := by decide +kernel
theorem dX4_orderUnderParent_15 : decode cX4_orderUnderParent 15 = .ok (.bipush 100, 2) := by decide +kernel
theorem dX4_orderUnderParent_17 : decode cX4_orderUnderParent 17 = .ok (.iload_n 1, 1) := by decide +kernel
theorem dX4_orderUnderParent_18 : decode cX4_orderUnderParent 18 = .ok (.iadd, 1) := by decide +kernel
theorem dX4_orderUnderParent_19 : decode cX4_orderUnderParent 19 = .ok (.ireturn, 1) := by decide +kernel
set_option maxRecDepth 20000 in
theorem ggX4_childAfter_X3_isReferral : GoodIn wsX4_childAfter wsX3_isReferral := goodIn_r _ [6, 7, 32, 33] (by decide +kernel) (by decide +kernel)
set_option maxRecDepth 20000 in
theorem gX4_childAfter_X3_isReferral : GoodIn wsX4_childAfter (wsV RX4 158 RX3 yX3_isReferral wsX3_isReferral) := goodIn_app (goodIn_of _ (by decide +kernel)) ggX4_childAfter_X3_isReferral
set_option maxRecDepth 20000 in
theorem ggX4_childAfter_X4_orderUnderParent : GoodIn wsX4_childAfter wsX4_orderUnderParent := goodIn_r _ [12, 13, 14, 15, 11, 16, 17, 18, 19, 20, 21, 22, 23, 24, 25, 26, 27, 28, 29, 30, 31] (by decide +kernel) (by decide +kernel)
set_option maxRecDepth 20000 in
theorem gX4_childAfter_X4_orderUnderParent : GoodIn wsX4_childAfter (wsV RX4 163 RX4 yX4_orderUnderParent wsX4_orderUnderParent) := goodIn_app (goodIn_of _ (by decide +kernel)) ggX4_childAfter_X4_orderUnderParent
theorem dX4_childAfter_0 : decode cX4_childAfter 0 = .ok (.iconst (-1), 1) := by decide +kernel
theorem dX4_childAfter_1 : decode cX4_childAfter 1 = .ok (.istore 4, 2) := by decide +kernel
theorem dX4_childAfter_3 : decode cX4_childAfter 3 = .ok (.iconst 0, 1) := by decide +kernel
theorem dX4_childAfter_4 : decode cX4_childAfter 4 = .ok (.istore 5, 2) := by decide +kernel
theorem dX4_childAfter_6 : decode cX4_childAfter 6 = .ok (.iload 5, 2) := by decide +kernel
theorem dX4_childAfter_8 : decode cX4_childAfter 8 = .ok (.bipush 42, 2) := by decide +kernel
theorem dX4_childAfter_10 : decode cX4_childAfter 10 = .ok (.if_icmp .ge 64, 3) := by decide +kernel
theorem dX4_childAfter_13 : decode cX4_childAfter 13 = .ok (.aload_n 0, 1) := by decide +kernel
theorem dX4_childAfter_14 : decode cX4_childAfter 14 = .ok (.getfield 19, 3) := by decide +kernel
theorem dX4_childAfter_17 : decode cX4_childAfter 17 = .ok (.iload 5, 2) := by decide +kernel
theorem dX4_childAfter_19 : decode cX4_childAfter 19 = .ok (.iaload, 1) := by decide +kernel
theorem dX4_childAfter_20 : decode cX4_childAfter 20 = .ok (.iload_n 1, 1) := by decide +kernel
theorem dX4_childAfter_21 : decode cX4_childAfter 21 = .ok (.if_icmp .ne 47, 3) := by decide +kernel
theorem dX4_childAfter_24 : decode cX4_childAfter 24 = .ok (.aload_n 3, 1) := by decide +kernel
theorem dX4_childAfter_25 : decode cX4_childAfter 25 = .ok (.iload 5, 2) := by decide +kernel
theorem dX4_childAfter_27 : decode cX4_childAfter 27 = .ok (.invokevirtual 158, 3) := by decide +kernel
theorem dX4_childAfter_30 : decode cX4_childAfter 30 = .ok (.ifCond .ne 38, 3) := by decide +kernel
theorem dX4_childAfter_33 : decode cX4_childAfter 33 = .ok (.aload_n 0, 1) := by decide +kernel
theorem dX4_childAfter_34 : decode cX4_childAfter 34 = .ok (.iload 5, 2) := by decide +kernel
theorem dX4_childAfter_36 : decode cX4_childAfter 36 = .ok (.invokevirtual 163, 3) := by decide +kernel
theorem dX4_childAfter_39 : decode cX4_childAfter 39 = .ok (.iload_n 2, 1) := by decide +kernel
theorem dX4_childAfter_40 : decode cX4_childAfter 40 = .ok (.if_icmp .le 28, 3) := by decide +kernel
theorem dX4_childAfter_43 : decode cX4_childAfter 43 = .ok (.iload 4, 2) := by decide +kernel
theorem dX4_childAfter_45 : decode cX4_childAfter 45 = .ok (.iconst (-1), 1) := by decide +kernel
theorem dX4_childAfter_46 : decode cX4_childAfter 46 = .ok (.if_icmp .eq 18, 3) := by decide +kernel
theorem dX4_childAfter_49 : decode cX4_childAfter 49 = .ok (.aload_n 0, 1) := by decide +kernel
theorem dX4_childAfter_50 : decode cX4_childAfter 50 = .ok (.iload 5, 2) := by decide +kernel
theorem dX4_childAfter_52 : decode cX4_childAfter 52 = .ok (.invokevirtual 163, 3) := by decide +kernel
theorem dX4_childAfter_55 : decode cX4_childAfter 55 = .ok (.aload_n 0, 1) := by decide +kernel
theorem dX4_childAfter_56 : decode cX4_childAfter 56 = .ok (.iload 4, 2) := by decide +kernel
theorem dX4_childAfter_58 : decode cX4_childAfter 58 = .ok (.invokevirtual 163, 3) := by decide +kernel
theorem dX4_childAfter_61 : decode cX4_childAfter 61 = .ok (.if_icmp .ge 7, 3) := by decide +kernel
theorem dX4_childAfter_64 : decode cX4_childAfter 64 = .ok (.iload 5, 2) := by decide +kernel
theorem dX4_childAfter_66 : decode cX4_childAfter 66 = .ok (.istore 4, 2) := by decide +kernel
theorem dX4_childAfter_68 : decode cX4_childAfter 68 = .ok (.iinc 5 1, 3) := by decide +kernel
theorem dX4_childAfter_71 : decode cX4_childAfter 71 = .ok (.goto (-65), 3) := by decide +kernel
theorem dX4_childAfter_74 : decode cX4_childAfter 74 = .ok (.iload 4, 2) := by decide +kernel
theorem dX4_childAfter_76 : decode cX4_childAfter 76 = .ok (.ireturn, 1) := by decide +kernel
set_option maxRecDepth 20000 in
theorem ggX4_entryAfter_X4_childAfter : GoodIn wsX4_entryAfter wsX4_childAfter := goodIn_r _ [5, 6, 7, 8, 9, 10, 11, 12, 13, 14, 15, 4, 16, 17, 18, 19, 20, 21, 22, 23, 24, 29, 30, 31, 32, 33, 34, 35, 36, 37, 38, 39, 40, 41] (by decide +kernel) (by decide +kernel)
set_option maxRecDepth 20000 in
theorem gX4_entryAfter_X4_childAfter : GoodIn wsX4_entryAfter (wsV RX4 166 RX4 yX4_childAfter wsX4_childAfter) := goodIn_app (goodIn_of _ (by decide +kernel)) ggX4_entryAfter_X4_childAfter
set_option maxRecDepth 20000 in
theorem ggX4_entryAfter_X4_parentAt : GoodIn wsX4_entryAfter wsX4_parentAt := goodIn_r _ [28, 6, 22, 23, 24, 29, 30, 31, 32, 33, 34, 35, 36, 37, 38, 39] (by decide +kernel) (by decide +kernel)
set_option maxRecDepth 20000 in
theorem gX4_entryAfter_X4_parentAt : GoodIn wsX4_entryAfter (wsV RX4 145 RX4 yX4_parentAt wsX4_parentAt) := goodIn_app (goodIn_of _ (by decide +kernel)) ggX4_entryAfter_X4_parentAt
set_option maxRecDepth 20000 in
theorem ggX4_entryAfter_X4_orderUnderParent : GoodIn wsX4_entryAfter wsX4_orderUnderParent := goodIn_r _ [16, 17, 18, 19, 4, 20, 21, 22, 23, 24, 29, 30, 31, 32, 33, 34, 35, 36, 37, 38, 39] (by decide +kernel) (by decide +kernel)
set_option maxRecDepth 20000 in
theorem gX4_entryAfter_X4_orderUnderParent : GoodIn wsX4_entryAfter (wsV RX4 163 RX4 yX4_orderUnderParent wsX4_orderUnderParent) := goodIn_app (goodIn_of _ (by decide +kernel)) ggX4_entryAfter_X4_orderUnderParent
theorem dX4_entryAfter_0 : decode cX4_entryAfter 0 = .ok (.aload_n 0, 1) := by decide +kernel
theorem dX4_entryAfter_1 : decode cX4_entryAfter 1 = .ok (.iload_n 1, 1) := by decide +kernel
theorem dX4_entryAfter_2 : decode cX4_entryAfter 2 = .ok (.iconst (-1), 1) := by decide +kernel
theorem dX4_entryAfter_3 : decode cX4_entryAfter 3 = .ok (.aload_n 3, 1) := by decide +kernel
theorem dX4_entryAfter_4 : decode cX4_entryAfter 4 = .ok (.invokevirtual 166, 3) := by decide +kernel
theorem dX4_entryAfter_7 : decode cX4_entryAfter 7 = .ok (.istore 4, 2) := by decide +kernel
theorem dX4_entryAfter_9 : decode cX4_entryAfter 9 = .ok (.iload 4, 2) := by decide +kernel
theorem dX4_entryAfter_11 : decode cX4_entryAfter 11 = .ok (.iconst (-1), 1) := by decide +kernel
theorem dX4_entryAfter_12 : decode cX4_entryAfter 12 = .ok (.if_icmp .eq 6, 3) := by decide +kernel
theorem dX4_entryAfter_15 : decode cX4_entryAfter 15 = .ok (.iload 4, 2) := by decide +kernel
theorem dX4_entryAfter_17 : decode cX4_entryAfter 17 = .ok (.ireturn, 1) := by decide +kernel
theorem dX4_entryAfter_18 : decode cX4_entryAfter 18 = .ok (.iload_n 1, 1) := by decide +kernel
theorem dX4_entryAfter_19 : decode cX4_entryAfter 19 = .ok (.istore 5, 2) := by decide +kernel
theorem dX4_entryAfter_21 : decode cX4_entryAfter 21 = .ok (.iconst 0, 1) := by decide +kernel
theorem dX4_entryAfter_22 : decode cX4_entryAfter 22 = .ok (.istore 6, 2) := by decide +kernel
theorem dX4_entryAfter_24 : decode cX4_entryAfter 24 = .ok (.iload 6, 2) := by decide +kernel
theorem dX4_entryAfter_26 : decode cX4_entryAfter 26 = .ok (.bipush 42, 2) := by decide +kernel
theorem dX4_entryAfter_28 : decode cX4_entryAfter 28 = .ok (.if_icmp .ge 57, 3) := by decide +kernel
theorem dX4_entryAfter_31 : decode cX4_entryAfter 31 = .ok (.iload 5, 2) := by decide +kernel
theorem dX4_entryAfter_33 : decode cX4_entryAfter 33 = .ok (.iload_n 2, 1) := by decide +kernel
theorem dX4_entryAfter_34 : decode cX4_entryAfter 34 = .ok (.if_icmp .eq 51, 3) := by decide +kernel
theorem dX4_entryAfter_37 : decode cX4_entryAfter 37 = .ok (.iload 5, 2) := by decide +kernel
theorem dX4_entryAfter_39 : decode cX4_entryAfter 39 = .ok (.iconst (-1), 1) := by decide +kernel
theorem dX4_entryAfter_40 : decode cX4_entryAfter 40 = .ok (.if_icmp .eq 45, 3) := by decide +kernel
theorem dX4_entryAfter_43 : decode cX4_entryAfter 43 = .ok (.aload_n 0, 1) := by decide +kernel
theorem dX4_entryAfter_44 : decode cX4_entryAfter 44 = .ok (.aload_n 0, 1) := by decide +kernel
theorem dX4_entryAfter_45 : decode cX4_entryAfter 45 = .ok (.iload 5, 2) := by decide +kernel
theorem dX4_entryAfter_47 : decode cX4_entryAfter 47 = .ok (.invokevirtual 145, 3) := by decide +kernel
theorem dX4_entryAfter_50 : decode cX4_entryAfter 50 = .ok (.aload_n 0, 1) := by decide +kernel
theorem dX4_entryAfter_51 : decode cX4_entryAfter 51 = .ok (.iload 5, 2) := by decide +kernel
theorem dX4_entryAfter_53 : decode cX4_entryAfter 53 = .ok (.invokevirtual 163, 3) := by decide +kernel
theorem dX4_entryAfter_56 : decode cX4_entryAfter 56 = .ok (.aload_n 3, 1) := by decide +kernel
theorem dX4_entryAfter_57 : decode cX4_entryAfter 57 = .ok (.invokevirtual 166, 3) := by decide +kernel
theorem dX4_entryAfter_60 : decode cX4_entryAfter 60 = .ok (.istore 7, 2) := by decide +kernel
theorem dX4_entryAfter_62 : decode cX4_entryAfter 62 = .ok (.iload 7, 2) := by decide +kernel
theorem dX4_entryAfter_64 : decode cX4_entryAfter 64 = .ok (.iconst (-1), 1) := by decide +kernel
theorem dX4_entryAfter_65 : decode cX4_entryAfter 65 = .ok (.if_icmp .eq 6, 3) := by decide +kernel
theorem dX4_entryAfter_68 : decode cX4_entryAfter 68 = .ok (.iload 7, 2) := by decide +kernel
theorem dX4_entryAfter_70 : decode cX4_entryAfter 70 = .ok (.ireturn, 1) := by decide +kernel
theorem dX4_entryAfter_71 : decode cX4_entryAfter 71 = .ok (.aload_n 0, 1) := by decide +kernel
theorem dX4_entryAfter_72 : decode cX4_entryAfter 72 = .ok (.iload 5, 2) := by decide +kernel
theorem dX4_entryAfter_74 : decode cX4_entryAfter 74 = .ok (.invokevirtual 145, 3) := by decide +kernel
theorem dX4_entryAfter_77 : decode cX4_entryAfter 77 = .ok (.istore 5, 2) := by decide +kernel
theorem dX4_entryAfter_79 : decode cX4_entryAfter 79 = .ok (.iinc 6 1, 3) := by decide +kernel
theorem dX4_entryAfter_82 : decode cX4_entryAfter 82 = .ok (.goto (-58), 3) := by decide +kernel
theorem dX4_entryAfter_85 : decode cX4_entryAfter 85 = .ok (.iconst (-1), 1) := by decide +kernel
theorem dX4_entryAfter_86 : decode cX4_entryAfter 86 = .ok (.ireturn, 1) := by decide +kernel
theorem dJ7_fill_53178_0 : decode cJ7_fill_53178 0 = .ok (.iconst 0, 1) := by decide +kernel
theorem dJ7_fill_53178_1 : decode cJ7_fill_53178 1 = .ok (.istore_n 2, 1) := by decide +kernel
theorem dJ7_fill_53178_2 : decode cJ7_fill_53178 2 = .ok (.aload_n 0, 1) := by decide +kernel
theorem dJ7_fill_53178_3 : decode cJ7_fill_53178 3 = .ok (.arraylength, 1) := by decide +kernel
theorem dJ7_fill_53178_4 : decode cJ7_fill_53178 4 = .ok (.istore_n 3, 1) := by decide +kernel
theorem dJ7_fill_53178_5 : decode cJ7_fill_53178 5 = .ok (.iload_n 2, 1) := by decide +kernel
theorem dJ7_fill_53178_6 : decode cJ7_fill_53178 6 = .ok (.iload_n 3, 1) := by decide +kernel
theorem dJ7_fill_53178_7 : decode cJ7_fill_53178 7 = .ok (.if_icmp .ge 13, 3) := by decide +kernel
theorem dJ7_fill_53178_10 : decode cJ7_fill_53178 10 = .ok (.aload_n 0, 1) := by decide +kernel
theorem dJ7_fill_53178_11 : decode cJ7_fill_53178 11 = .ok (.iload_n 2, 1) := by decide +kernel
theorem dJ7_fill_53178_12 : decode cJ7_fill_53178 12 = .ok (.iload_n 1, 1) := by decide +kernel
theorem dJ7_fill_53178_13 : decode cJ7_fill_53178 13 = .ok (.iastore, 1) := by decide +kernel
theorem dJ7_fill_53178_14 : decode cJ7_fill_53178 14 = .ok (.iinc 2 1, 3) := by decide +kernel
theorem dJ7_fill_53178_17 : decode cJ7_fill_53178 17 = .ok (.goto (-12), 3) := by decide +kernel
theorem dJ7_fill_53178_20 : decode cJ7_fill_53178 20 = .ok (.return_, 1) := by decide +kernel
