theorem dL_kind_0 : decode cL_kind 0 = .ok (.aload_n 0, 1) := by decide +kernel
theorem dL_kind_1 : decode cL_kind 1 = .ok (.iload_n 1, 1) := by decide +kernel
theorem dL_kind_2 : decode cL_kind 2 = .ok (.iload_n 2, 1) := by decide +kernel
theorem dL_kind_3 : decode cL_kind 3 = .ok (.iload_n 3, 1) := by decide +kernel
theorem dL_kind_4 : decode cL_kind 4 = .ok (.invokevirtual 7, 3) := by decide +kernel
theorem dL_kind_7 : decode cL_kind 7 = .ok (.iconst 0, 1) := by decide +kernel
theorem dL_kind_8 : decode cL_kind 8 = .ok (.ireturn, 1) := by decide +kernel
theorem dL_kind_9 : decode cL_kind 9 = .ok (.astore 4, 2) := by decide +kernel
theorem dL_kind_11 : decode cL_kind 11 = .ok (.bipush (-71), 2) := by decide +kernel
theorem dL_kind_13 : decode cL_kind 13 = .ok (.ireturn, 1) := by decide +kernel
theorem dL_kind_14 : decode cL_kind 14 = .ok (.astore 4, 2) := by decide +kernel
theorem dL_kind_16 : decode cL_kind 16 = .ok (.bipush (-72), 2) := by decide +kernel
theorem dL_kind_18 : decode cL_kind 18 = .ok (.ireturn, 1) := by decide +kernel
theorem dL_kind_19 : decode cL_kind 19 = .ok (.astore 4, 2) := by decide +kernel
theorem dL_kind_21 : decode cL_kind 21 = .ok (.bipush (-73), 2) := by decide +kernel
theorem dL_kind_23 : decode cL_kind 23 = .ok (.ireturn, 1) := by decide +kernel
theorem dL_right_0 : decode cL_right 0 = .ok (.aload_n 0, 1) := by decide +kernel
theorem dL_right_1 : decode cL_right 1 = .ok (.iload_n 1, 1) := by decide +kernel
theorem dL_right_2 : decode cL_right 2 = .ok (.iload_n 2, 1) := by decide +kernel
theorem dL_right_3 : decode cL_right 3 = .ok (.iload_n 3, 1) := by decide +kernel
theorem dL_right_4 : decode cL_right 4 = .ok (.invokevirtual 19, 3) := by decide +kernel
theorem dL_right_7 : decode cL_right 7 = .ok (.iconst 0, 1) := by decide +kernel
theorem dL_right_8 : decode cL_right 8 = .ok (.ireturn, 1) := by decide +kernel
theorem dL_right_9 : decode cL_right 9 = .ok (.astore 4, 2) := by decide +kernel
theorem dL_right_11 : decode cL_right 11 = .ok (.bipush (-71), 2) := by decide +kernel
theorem dL_right_13 : decode cL_right 13 = .ok (.ireturn, 1) := by decide +kernel
theorem dL_right_14 : decode cL_right 14 = .ok (.astore 4, 2) := by decide +kernel
theorem dL_right_16 : decode cL_right 16 = .ok (.bipush (-72), 2) := by decide +kernel
theorem dL_right_18 : decode cL_right 18 = .ok (.ireturn, 1) := by decide +kernel
theorem dL_refer_0 : decode cL_refer 0 = .ok (.aload_n 0, 1) := by decide +kernel
theorem dL_refer_1 : decode cL_refer 1 = .ok (.iload_n 1, 1) := by decide +kernel
theorem dL_refer_2 : decode cL_refer 2 = .ok (.iload_n 2, 1) := by decide +kernel
theorem dL_refer_3 : decode cL_refer 3 = .ok (.invokevirtual 22, 3) := by decide +kernel
theorem dL_refer_6 : decode cL_refer 6 = .ok (.iconst 0, 1) := by decide +kernel
theorem dL_refer_7 : decode cL_refer 7 = .ok (.ireturn, 1) := by decide +kernel
theorem dL_refer_8 : decode cL_refer 8 = .ok (.astore_n 3, 1) := by decide +kernel
theorem dL_refer_9 : decode cL_refer 9 = .ok (.bipush (-71), 2) := by decide +kernel
theorem dL_refer_11 : decode cL_refer 11 = .ok (.ireturn, 1) := by decide +kernel
theorem dL_search_0 : decode cL_search 0 = .ok (.aload_n 0, 1) := by decide +kernel
theorem dL_search_1 : decode cL_search 1 = .ok (.iload_n 1, 1) := by decide +kernel
theorem dL_search_2 : decode cL_search 2 = .ok (.iload_n 2, 1) := by decide +kernel
theorem dL_search_3 : decode cL_search 3 = .ok (.iload_n 3, 1) := by decide +kernel
theorem dL_search_4 : decode cL_search 4 = .ok (.iload 4, 2) := by decide +kernel
theorem dL_search_6 : decode cL_search 6 = .ok (.iload 5, 2) := by decide +kernel
theorem dL_search_8 : decode cL_search 8 = .ok (.iload 6, 2) := by decide +kernel
theorem dL_search_10 : decode cL_search 10 = .ok (.invokevirtual 79, 3) := by decide +kernel
theorem dL_search_13 : decode cL_search 13 = .ok (.ireturn, 1) := by decide +kernel
theorem dL_search_14 : decode cL_search 14 = .ok (.astore 7, 2) := by decide +kernel
theorem dL_search_16 : decode cL_search 16 = .ok (.bipush (-71), 2) := by decide +kernel
theorem dL_search_18 : decode cL_search 18 = .ok (.ireturn, 1) := by decide +kernel
theorem dL_search_19 : decode cL_search 19 = .ok (.astore 7, 2) := by decide +kernel
theorem dL_search_21 : decode cL_search 21 = .ok (.bipush (-72), 2) := by decide +kernel
theorem dL_search_23 : decode cL_search 23 = .ok (.ireturn, 1) := by decide +kernel
theorem dL_at_0 : decode cL_at 0 = .ok (.aload_n 0, 1) := by decide +kernel
theorem dL_at_1 : decode cL_at 1 = .ok (.iload_n 1, 1) := by decide +kernel
theorem dL_at_2 : decode cL_at 2 = .ok (.iload_n 2, 1) := by decide +kernel
theorem dL_at_3 : decode cL_at 3 = .ok (.invokevirtual 51, 3) := by decide +kernel
theorem dL_at_6 : decode cL_at 6 = .ok (.ifCond .eq 28, 3) := by decide +kernel
theorem dL_at_9 : decode cL_at 9 = .ok (.aload_n 0, 1) := by decide +kernel
theorem dL_at_10 : decode cL_at 10 = .ok (.iload_n 1, 1) := by decide +kernel
theorem dL_at_11 : decode cL_at 11 = .ok (.iload_n 2, 1) := by decide +kernel
theorem dL_at_12 : decode cL_at 12 = .ok (.invokevirtual 54, 3) := by decide +kernel
theorem dL_at_15 : decode cL_at 15 = .ok (.iload_n 3, 1) := by decide +kernel
theorem dL_at_16 : decode cL_at 16 = .ok (.if_icmp .ne 18, 3) := by decide +kernel
theorem dL_at_19 : decode cL_at 19 = .ok (.aload_n 0, 1) := by decide +kernel
theorem dL_at_20 : decode cL_at 20 = .ok (.iload_n 1, 1) := by decide +kernel
theorem dL_at_21 : decode cL_at 21 = .ok (.iload_n 2, 1) := by decide +kernel
theorem dL_at_22 : decode cL_at 22 = .ok (.invokevirtual 57, 3) := by decide +kernel
theorem dL_at_25 : decode cL_at 25 = .ok (.iload 4, 2) := by decide +kernel
theorem dL_at_27 : decode cL_at 27 = .ok (.if_icmp .ne 7, 3) := by decide +kernel
theorem dL_at_30 : decode cL_at 30 = .ok (.iconst 1, 1) := by decide +kernel
theorem dL_at_31 : decode cL_at 31 = .ok (.goto 4, 3) := by decide +kernel
theorem dL_at_34 : decode cL_at 34 = .ok (.iconst 0, 1) := by decide +kernel
theorem dL_at_35 : decode cL_at 35 = .ok (.ireturn, 1) := by decide +kernel
theorem dL_finds_0 : decode cL_finds 0 = .ok (.iload 5, 2) := by decide +kernel
theorem dL_finds_2 : decode cL_finds 2 = .ok (.ifCond .ge 7, 3) := by decide +kernel
theorem dL_finds_5 : decode cL_finds 5 = .ok (.iconst 0, 1) := by decide +kernel
theorem dL_finds_6 : decode cL_finds 6 = .ok (.goto 31, 3) := by decide +kernel
theorem dL_finds_9 : decode cL_finds 9 = .ok (.iload 6, 2) := by decide +kernel
theorem dL_finds_11 : decode cL_finds 11 = .ok (.ifCond .ge 7, 3) := by decide +kernel
theorem dL_finds_14 : decode cL_finds 14 = .ok (.iconst 1, 1) := by decide +kernel
theorem dL_finds_15 : decode cL_finds 15 = .ok (.goto 22, 3) := by decide +kernel
theorem dL_finds_18 : decode cL_finds 18 = .ok (.iload 7, 2) := by decide +kernel
theorem dL_finds_20 : decode cL_finds 20 = .ok (.ifCond .ge 7, 3) := by decide +kernel
theorem dL_finds_23 : decode cL_finds 23 = .ok (.iconst 2, 1) := by decide +kernel
theorem dL_finds_24 : decode cL_finds 24 = .ok (.goto 13, 3) := by decide +kernel
theorem dL_finds_27 : decode cL_finds 27 = .ok (.iload 8, 2) := by decide +kernel
theorem dL_finds_29 : decode cL_finds 29 = .ok (.ifCond .ge 7, 3) := by decide +kernel
theorem dL_finds_32 : decode cL_finds 32 = .ok (.iconst 3, 1) := by decide +kernel
theorem dL_finds_33 : decode cL_finds 33 = .ok (.goto 4, 3) := by decide +kernel
theorem dL_finds_36 : decode cL_finds 36 = .ok (.iconst 4, 1) := by decide +kernel
theorem dL_finds_37 : decode cL_finds 37 = .ok (.istore 9, 2) := by decide +kernel
theorem dL_finds_39 : decode cL_finds 39 = .ok (.iload 9, 2) := by decide +kernel
theorem dL_finds_41 : decode cL_finds 41 = .ok (.iconst 1, 1) := by decide +kernel
theorem dL_finds_42 : decode cL_finds 42 = .ok (.if_icmp .lt 19, 3) := by decide +kernel
theorem dL_finds_45 : decode cL_finds 45 = .ok (.aload_n 0, 1) := by decide +kernel
theorem dL_finds_46 : decode cL_finds 46 = .ok (.iconst 0, 1) := by decide +kernel
theorem dL_finds_47 : decode cL_finds 47 = .ok (.iload_n 1, 1) := by decide +kernel
theorem dL_finds_48 : decode cL_finds 48 = .ok (.iload_n 2, 1) := by decide +kernel
theorem dL_finds_49 : decode cL_finds 49 = .ok (.iload_n 3, 1) := by decide +kernel
theorem dL_finds_50 : decode cL_finds 50 = .ok (.iload 4, 2) := by decide +kernel
theorem dL_finds_52 : decode cL_finds 52 = .ok (.iconst 0, 1) := by decide +kernel
theorem dL_finds_53 : decode cL_finds 53 = .ok (.invokevirtual 79, 3) := by decide +kernel
theorem dL_finds_56 : decode cL_finds 56 = .ok (.iload 5, 2) := by decide +kernel
theorem dL_finds_58 : decode cL_finds 58 = .ok (.if_icmp .ne 89, 3) := by decide +kernel
theorem dL_finds_61 : decode cL_finds 61 = .ok (.iload 9, 2) := by decide +kernel
theorem dL_finds_63 : decode cL_finds 63 = .ok (.iconst 2, 1) := by decide +kernel
theorem dL_finds_64 : decode cL_finds 64 = .ok (.if_icmp .lt 19, 3) := by decide +kernel
theorem dL_finds_67 : decode cL_finds 67 = .ok (.aload_n 0, 1) := by decide +kernel
theorem dL_finds_68 : decode cL_finds 68 = .ok (.iconst 0, 1) := by decide +kernel
theorem dL_finds_69 : decode cL_finds 69 = .ok (.iload_n 1, 1) := by decide +kernel
theorem dL_finds_70 : decode cL_finds 70 = .ok (.iload_n 2, 1) := by decide +kernel
theorem dL_finds_71 : decode cL_finds 71 = .ok (.iload_n 3, 1) := by decide +kernel
theorem dL_finds_72 : decode cL_finds 72 = .ok (.iload 4, 2) := by decide +kernel
theorem dL_finds_74 : decode cL_finds 74 = .ok (.iconst 1, 1) := by decide +kernel
theorem dL_finds_75 : decode cL_finds 75 = .ok (.invokevirtual 79, 3) := by decide +kernel
theorem dL_finds_78 : decode cL_finds 78 = .ok (.iload 6, 2) := by decide +kernel
theorem dL_finds_80 : decode cL_finds 80 = .ok (.if_icmp .ne 67, 3) := by decide +kernel
theorem dL_finds_83 : decode cL_finds 83 = .ok (.iload 9, 2) := by decide +kernel
theorem dL_finds_85 : decode cL_finds 85 = .ok (.iconst 3, 1) := by decide +kernel
theorem dL_finds_86 : decode cL_finds 86 = .ok (.if_icmp .lt 19, 3) := by decide +kernel
theorem dL_finds_89 : decode cL_finds 89 = .ok (.aload_n 0, 1) := by decide +kernel
theorem dL_finds_90 : decode cL_finds 90 = .ok (.iconst 0, 1) := by decide +kernel
theorem dL_finds_91 : decode cL_finds 91 = .ok (.iload_n 1, 1) := by decide +kernel
theorem dL_finds_92 : decode cL_finds 92 = .ok (.iload_n 2, 1) := by decide +kernel
theorem dL_finds_93 : decode cL_finds 93 = .ok (.iload_n 3, 1) := by decide +kernel
theorem dL_finds_94 : decode cL_finds 94 = .ok (.iload 4, 2) := by decide +kernel
theorem dL_finds_96 : decode cL_finds 96 = .ok (.iconst 2, 1) := by decide +kernel
theorem dL_finds_97 : decode cL_finds 97 = .ok (.invokevirtual 79, 3) := by decide +kernel
theorem dL_finds_100 : decode cL_finds 100 = .ok (.iload 7, 2) := by decide +kernel
theorem dL_finds_102 : decode cL_finds 102 = .ok (.if_icmp .ne 45, 3) := by decide +kernel
theorem dL_finds_105 : decode cL_finds 105 = .ok (.iload 9, 2) := by decide +kernel
theorem dL_finds_107 : decode cL_finds 107 = .ok (.iconst 4, 1) := by decide +kernel
theorem dL_finds_108 : decode cL_finds 108 = .ok (.if_icmp .lt 19, 3) := by decide +kernel
theorem dL_finds_111 : decode cL_finds 111 = .ok (.aload_n 0, 1) := by decide +kernel
theorem dL_finds_112 : decode cL_finds 112 = .ok (.iconst 0, 1) := by decide +kernel
theorem dL_finds_113 : decode cL_finds 113 = .ok (.iload_n 1, 1) := by decide +kernel
theorem dL_finds_114 : decode cL_finds 114 = .ok (.iload_n 2, 1) := by decide +kernel
theorem dL_finds_115 : decode cL_finds 115 = .ok (.iload_n 3, 1) := by decide +kernel
theorem dL_finds_116 : decode cL_finds 116 = .ok (.iload 4, 2) := by decide +kernel
theorem dL_finds_118 : decode cL_finds 118 = .ok (.iconst 3, 1) := by decide +kernel
theorem dL_finds_119 : decode cL_finds 119 = .ok (.invokevirtual 79, 3) := by decide +kernel
theorem dL_finds_122 : decode cL_finds 122 = .ok (.iload 8, 2) := by decide +kernel
theorem dL_finds_124 : decode cL_finds 124 = .ok (.if_icmp .ne 23, 3) := by decide +kernel
theorem dL_finds_127 : decode cL_finds 127 = .ok (.aload_n 0, 1) := by decide +kernel
theorem dL_finds_128 : decode cL_finds 128 = .ok (.iconst 0, 1) := by decide +kernel
theorem dL_finds_129 : decode cL_finds 129 = .ok (.iload_n 1, 1) := by decide +kernel
theorem dL_finds_130 : decode cL_finds 130 = .ok (.iload_n 2, 1) := by decide +kernel
theorem dL_finds_131 : decode cL_finds 131 = .ok (.iload_n 3, 1) := by decide +kernel
theorem dL_finds_132 : decode cL_finds 132 = .ok (.iload 4, 2) := by decide +kernel
theorem dL_finds_134 : decode cL_finds 134 = .ok (.iload 9, 2) := by decide +kernel
theorem dL_finds_136 : decode cL_finds 136 = .ok (.invokevirtual 79, 3) := by decide +kernel
theorem dL_finds_139 : decode cL_finds 139 = .ok (.iconst (-1), 1) := by decide +kernel
theorem dL_finds_140 : decode cL_finds 140 = .ok (.if_icmp .ne 7, 3) := by decide +kernel
theorem dL_finds_143 : decode cL_finds 143 = .ok (.iconst 1, 1) := by decide +kernel
theorem dL_finds_144 : decode cL_finds 144 = .ok (.goto 4, 3) := by decide +kernel
theorem dL_finds_147 : decode cL_finds 147 = .ok (.iconst 0, 1) := by decide +kernel
theorem dL_finds_148 : decode cL_finds 148 = .ok (.ireturn, 1) := by decide +kernel
