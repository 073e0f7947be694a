theorem dX6_init_0 : decode cX6_init 0 = .ok (.aload_n 0, 1) := by decide +kernel
theorem dX6_init_1 : decode cX6_init 1 = .ok (.invokespecial 1, 3) := by decide +kernel
theorem dX6_init_4 : decode cX6_init 4 = .ok (.aload_n 0, 1) := by decide +kernel
theorem dX6_init_5 : decode cX6_init 5 = .ok (.iconst 3, 1) := by decide +kernel
theorem dX6_init_6 : decode cX6_init 6 = .ok (.newarray .int, 2) := by decide +kernel
theorem dX6_init_8 : decode cX6_init 8 = .ok (.putfield 7, 3) := by decide +kernel
theorem dX6_init_11 : decode cX6_init 11 = .ok (.aload_n 0, 1) := by decide +kernel
theorem dX6_init_12 : decode cX6_init 12 = .ok (.iconst 3, 1) := by decide +kernel
theorem dX6_init_13 : decode cX6_init 13 = .ok (.newarray .int, 2) := by decide +kernel
theorem dX6_init_15 : decode cX6_init 15 = .ok (.putfield 13, 3) := by decide +kernel
theorem dX6_init_18 : decode cX6_init 18 = .ok (.aload_n 0, 1) := by decide +kernel
theorem dX6_init_19 : decode cX6_init 19 = .ok (.bipush 40, 2) := by decide +kernel
theorem dX6_init_21 : decode cX6_init 21 = .ok (.newarray .int, 2) := by decide +kernel
theorem dX6_init_23 : decode cX6_init 23 = .ok (.putfield 16, 3) := by decide +kernel
theorem dX6_init_26 : decode cX6_init 26 = .ok (.aload_n 0, 1) := by decide +kernel
theorem dX6_init_27 : decode cX6_init 27 = .ok (.bipush 40, 2) := by decide +kernel
theorem dX6_init_29 : decode cX6_init 29 = .ok (.newarray .int, 2) := by decide +kernel
theorem dX6_init_31 : decode cX6_init 31 = .ok (.putfield 19, 3) := by decide +kernel
theorem dX6_init_34 : decode cX6_init 34 = .ok (.aload_n 0, 1) := by decide +kernel
theorem dX6_init_35 : decode cX6_init 35 = .ok (.bipush 40, 2) := by decide +kernel
theorem dX6_init_37 : decode cX6_init 37 = .ok (.newarray .int, 2) := by decide +kernel
theorem dX6_init_39 : decode cX6_init 39 = .ok (.putfield 22, 3) := by decide +kernel
theorem dX6_init_42 : decode cX6_init 42 = .ok (.aload_n 0, 1) := by decide +kernel
theorem dX6_init_43 : decode cX6_init 43 = .ok (.bipush 40, 2) := by decide +kernel
theorem dX6_init_45 : decode cX6_init 45 = .ok (.newarray .int, 2) := by decide +kernel
theorem dX6_init_47 : decode cX6_init 47 = .ok (.putfield 25, 3) := by decide +kernel
theorem dX6_init_50 : decode cX6_init 50 = .ok (.aload_n 0, 1) := by decide +kernel
theorem dX6_init_51 : decode cX6_init 51 = .ok (.bipush 40, 2) := by decide +kernel
theorem dX6_init_53 : decode cX6_init 53 = .ok (.newarray .int, 2) := by decide +kernel
theorem dX6_init_55 : decode cX6_init 55 = .ok (.putfield 28, 3) := by decide +kernel
theorem dX6_init_58 : decode cX6_init 58 = .ok (.aload_n 0, 1) := by decide +kernel
theorem dX6_init_59 : decode cX6_init 59 = .ok (.bipush 40, 2) := by decide +kernel
theorem dX6_init_61 : decode cX6_init 61 = .ok (.newarray .int, 2) := by decide +kernel
theorem dX6_init_63 : decode cX6_init 63 = .ok (.putfield 31, 3) := by decide +kernel
theorem dX6_init_66 : decode cX6_init 66 = .ok (.aload_n 0, 1) := by decide +kernel
theorem dX6_init_67 : decode cX6_init 67 = .ok (.bipush 40, 2) := by decide +kernel
theorem dX6_init_69 : decode cX6_init 69 = .ok (.newarray .int, 2) := by decide +kernel
theorem dX6_init_71 : decode cX6_init 71 = .ok (.putfield 34, 3) := by decide +kernel
theorem dX6_init_74 : decode cX6_init 74 = .ok (.aload_n 0, 1) := by decide +kernel
theorem dX6_init_75 : decode cX6_init 75 = .ok (.bipush 40, 2) := by decide +kernel
theorem dX6_init_77 : decode cX6_init 77 = .ok (.newarray .int, 2) := by decide +kernel
theorem dX6_init_79 : decode cX6_init 79 = .ok (.putfield 37, 3) := by decide +kernel
theorem dX6_init_82 : decode cX6_init 82 = .ok (.aload_n 0, 1) := by decide +kernel
theorem dX6_init_83 : decode cX6_init 83 = .ok (.bipush 40, 2) := by decide +kernel
theorem dX6_init_85 : decode cX6_init 85 = .ok (.newarray .int, 2) := by decide +kernel
theorem dX6_init_87 : decode cX6_init 87 = .ok (.putfield 40, 3) := by decide +kernel
theorem dX6_init_90 : decode cX6_init 90 = .ok (.aload_n 0, 1) := by decide +kernel
theorem dX6_init_91 : decode cX6_init 91 = .ok (.bipush 126, 2) := by decide +kernel
theorem dX6_init_93 : decode cX6_init 93 = .ok (.newarray .int, 2) := by decide +kernel
theorem dX6_init_95 : decode cX6_init 95 = .ok (.putfield 43, 3) := by decide +kernel
theorem dX6_init_98 : decode cX6_init 98 = .ok (.aload_n 0, 1) := by decide +kernel
theorem dX6_init_99 : decode cX6_init 99 = .ok (.bipush 42, 2) := by decide +kernel
theorem dX6_init_101 : decode cX6_init 101 = .ok (.newarray .boolean, 2) := by decide +kernel
theorem dX6_init_103 : decode cX6_init 103 = .ok (.putfield 46, 3) := by decide +kernel
theorem dX6_init_106 : decode cX6_init 106 = .ok (.aload_n 0, 1) := by decide +kernel
theorem dX6_init_107 : decode cX6_init 107 = .ok (.bipush 20, 2) := by decide +kernel
theorem dX6_init_109 : decode cX6_init 109 = .ok (.newarray .int, 2) := by decide +kernel
theorem dX6_init_111 : decode cX6_init 111 = .ok (.putfield 50, 3) := by decide +kernel
theorem dX6_init_114 : decode cX6_init 114 = .ok (.aload_n 0, 1) := by decide +kernel
theorem dX6_init_115 : decode cX6_init 115 = .ok (.bipush 20, 2) := by decide +kernel
theorem dX6_init_117 : decode cX6_init 117 = .ok (.newarray .int, 2) := by decide +kernel
theorem dX6_init_119 : decode cX6_init 119 = .ok (.putfield 53, 3) := by decide +kernel
theorem dX6_init_122 : decode cX6_init 122 = .ok (.aload_n 0, 1) := by decide +kernel
theorem dX6_init_123 : decode cX6_init 123 = .ok (.bipush 20, 2) := by decide +kernel
theorem dX6_init_125 : decode cX6_init 125 = .ok (.newarray .int, 2) := by decide +kernel
theorem dX6_init_127 : decode cX6_init 127 = .ok (.putfield 56, 3) := by decide +kernel
theorem dX6_init_130 : decode cX6_init 130 = .ok (.aload_n 0, 1) := by decide +kernel
theorem dX6_init_131 : decode cX6_init 131 = .ok (.bipush 20, 2) := by decide +kernel
theorem dX6_init_133 : decode cX6_init 133 = .ok (.newarray .int, 2) := by decide +kernel
theorem dX6_init_135 : decode cX6_init 135 = .ok (.putfield 59, 3) := by decide +kernel
theorem dX6_init_138 : decode cX6_init 138 = .ok (.aload_n 0, 1) := by decide +kernel
theorem dX6_init_139 : decode cX6_init 139 = .ok (.bipush 42, 2) := by decide +kernel
theorem dX6_init_141 : decode cX6_init 141 = .ok (.newarray .boolean, 2) := by decide +kernel
theorem dX6_init_143 : decode cX6_init 143 = .ok (.putfield 62, 3) := by decide +kernel
theorem dX6_init_146 : decode cX6_init 146 = .ok (.aload_n 0, 1) := by decide +kernel
theorem dX6_init_147 : decode cX6_init 147 = .ok (.bipush 42, 2) := by decide +kernel
theorem dX6_init_149 : decode cX6_init 149 = .ok (.newarray .int, 2) := by decide +kernel
theorem dX6_init_151 : decode cX6_init 151 = .ok (.putfield 65, 3) := by decide +kernel
theorem dX6_init_154 : decode cX6_init 154 = .ok (.aload_n 0, 1) := by decide +kernel
theorem dX6_init_155 : decode cX6_init 155 = .ok (.bipush 42, 2) := by decide +kernel
theorem dX6_init_157 : decode cX6_init 157 = .ok (.newarray .int, 2) := by decide +kernel
theorem dX6_init_159 : decode cX6_init 159 = .ok (.putfield 68, 3) := by decide +kernel
theorem dX6_init_162 : decode cX6_init 162 = .ok (.aload_n 0, 1) := by decide +kernel
theorem dX6_init_163 : decode cX6_init 163 = .ok (.bipush 42, 2) := by decide +kernel
theorem dX6_init_165 : decode cX6_init 165 = .ok (.newarray .int, 2) := by decide +kernel
theorem dX6_init_167 : decode cX6_init 167 = .ok (.putfield 71, 3) := by decide +kernel
theorem dX6_init_170 : decode cX6_init 170 = .ok (.aload_n 0, 1) := by decide +kernel
theorem dX6_init_171 : decode cX6_init 171 = .ok (.sipush 168, 3) := by decide +kernel
theorem dX6_init_174 : decode cX6_init 174 = .ok (.newarray .int, 2) := by decide +kernel
theorem dX6_init_176 : decode cX6_init 176 = .ok (.putfield 74, 3) := by decide +kernel
theorem dX6_init_179 : decode cX6_init 179 = .ok (.aload_n 0, 1) := by decide +kernel
theorem dX6_init_180 : decode cX6_init 180 = .ok (.sipush 294, 3) := by decide +kernel
theorem dX6_init_183 : decode cX6_init 183 = .ok (.newarray .int, 2) := by decide +kernel
theorem dX6_init_185 : decode cX6_init 185 = .ok (.putfield 77, 3) := by decide +kernel
theorem dX6_init_188 : decode cX6_init 188 = .ok (.iconst 0, 1) := by decide +kernel
theorem dX6_init_189 : decode cX6_init 189 = .ok (.istore_n 1, 1) := by decide +kernel
theorem dX6_init_190 : decode cX6_init 190 = .ok (.iload_n 1, 1) := by decide +kernel
theorem dX6_init_191 : decode cX6_init 191 = .ok (.iconst 3, 1) := by decide +kernel
theorem dX6_init_192 : decode cX6_init 192 = .ok (.if_icmp .ge 17, 3) := by decide +kernel
theorem dX6_init_195 : decode cX6_init 195 = .ok (.aload_n 0, 1) := by decide +kernel
theorem dX6_init_196 : decode cX6_init 196 = .ok (.getfield 13, 3) := by decide +kernel
theorem dX6_init_199 : decode cX6_init 199 = .ok (.iload_n 1, 1) := by decide +kernel
theorem dX6_init_200 : decode cX6_init 200 = .ok (.bipush 15, 2) := by decide +kernel
theorem dX6_init_202 : decode cX6_init 202 = .ok (.iastore, 1) := by decide +kernel
theorem dX6_init_203 : decode cX6_init 203 = .ok (.iinc 1 1, 3) := by decide +kernel
theorem dX6_init_206 : decode cX6_init 206 = .ok (.goto (-16), 3) := by decide +kernel
theorem dX6_init_209 : decode cX6_init 209 = .ok (.iconst 0, 1) := by decide +kernel
theorem dX6_init_210 : decode cX6_init 210 = .ok (.istore_n 1, 1) := by decide +kernel
theorem dX6_init_211 : decode cX6_init 211 = .ok (.iload_n 1, 1) := by decide +kernel
theorem dX6_init_212 : decode cX6_init 212 = .ok (.bipush 126, 2) := by decide +kernel
theorem dX6_init_214 : decode cX6_init 214 = .ok (.if_icmp .ge 16, 3) := by decide +kernel
theorem dX6_init_217 : decode cX6_init 217 = .ok (.aload_n 0, 1) := by decide +kernel
theorem dX6_init_218 : decode cX6_init 218 = .ok (.getfield 43, 3) := by decide +kernel
theorem dX6_init_221 : decode cX6_init 221 = .ok (.iload_n 1, 1) := by decide +kernel
theorem dX6_init_222 : decode cX6_init 222 = .ok (.iconst (-1), 1) := by decide +kernel
theorem dX6_init_223 : decode cX6_init 223 = .ok (.iastore, 1) := by decide +kernel
theorem dX6_init_224 : decode cX6_init 224 = .ok (.iinc 1 1, 3) := by decide +kernel
theorem dX6_init_227 : decode cX6_init 227 = .ok (.goto (-16), 3) := by decide +kernel
theorem dX6_init_230 : decode cX6_init 230 = .ok (.return_, 1) := by decide +kernel
theorem dX6_thrown_0 : decode cX6_thrown 0 = .ok (.aload_n 0, 1) := by decide +kernel
theorem dX6_thrown_1 : decode cX6_thrown 1 = .ok (.getfield 80, 3) := by decide +kernel
theorem dX6_thrown_4 : decode cX6_thrown 4 = .ok (.ireturn, 1) := by decide +kernel
theorem dX6_isIn_0 : decode cX6_isIn 0 = .ok (.iload_n 0, 1) := by decide +kernel
theorem dX6_isIn_1 : decode cX6_isIn 1 = .ok (.iload_n 1, 1) := by decide +kernel
theorem dX6_isIn_2 : decode cX6_isIn 2 = .ok (.if_icmp .lt 12, 3) := by decide +kernel
theorem dX6_isIn_5 : decode cX6_isIn 5 = .ok (.iload_n 0, 1) := by decide +kernel
theorem dX6_isIn_6 : decode cX6_isIn 6 = .ok (.iload_n 2, 1) := by decide +kernel
theorem dX6_isIn_7 : decode cX6_isIn 7 = .ok (.if_icmp .gt 7, 3) := by decide +kernel
theorem dX6_isIn_10 : decode cX6_isIn 10 = .ok (.iconst 1, 1) := by decide +kernel
theorem dX6_isIn_11 : decode cX6_isIn 11 = .ok (.goto 4, 3) := by decide +kernel
theorem dX6_isIn_14 : decode cX6_isIn 14 = .ok (.iconst 0, 1) := by decide +kernel
theorem dX6_isIn_15 : decode cX6_isIn 15 = .ok (.ireturn, 1) := by decide +kernel
set_option maxRecDepth 20000 in
theorem ggX6_isMaster_X6_isIn : GoodIn wsX6_isMaster wsX6_isIn := goodIn_r _ [4] (by decide +kernel) (by decide +kernel)
set_option maxRecDepth 20000 in
theorem gX6_isMaster_X6_isIn : GoodIn wsX6_isMaster (va_wsS RX6 84 yX6_isIn wsX6_isIn) := goodIn_app (goodIn_of _ (by decide +kernel)) ggX6_isMaster_X6_isIn
theorem dX6_isMaster_0 : decode cX6_isMaster 0 = .ok (.iload_n 0, 1) := by decide +kernel
theorem dX6_isMaster_1 : decode cX6_isMaster 1 = .ok (.iconst 0, 1) := by decide +kernel
theorem dX6_isMaster_2 : decode cX6_isMaster 2 = .ok (.iconst 1, 1) := by decide +kernel
theorem dX6_isMaster_3 : decode cX6_isMaster 3 = .ok (.invokestatic 84, 3) := by decide +kernel
theorem dX6_isMaster_6 : decode cX6_isMaster 6 = .ok (.ireturn, 1) := by decide +kernel
set_option maxRecDepth 20000 in
theorem ggX6_setClass_X6_isIn : GoodIn wsX6_setClass wsX6_isIn := goodIn_r _ [8] (by decide +kernel) (by decide +kernel)
set_option maxRecDepth 20000 in
theorem gX6_setClass_X6_isIn : GoodIn wsX6_setClass (va_wsS RX6 84 yX6_isIn wsX6_isIn) := goodIn_app (goodIn_of _ (by decide +kernel)) ggX6_setClass_X6_isIn
theorem dX6_setClass_0 : decode cX6_setClass 0 = .ok (.iload_n 2, 1) := by decide +kernel
theorem dX6_setClass_1 : decode cX6_setClass 1 = .ok (.iconst 0, 1) := by decide +kernel
theorem dX6_setClass_2 : decode cX6_setClass 2 = .ok (.bipush 15, 2) := by decide +kernel
theorem dX6_setClass_4 : decode cX6_setClass 4 = .ok (.invokestatic 84, 3) := by decide +kernel
theorem dX6_setClass_7 : decode cX6_setClass 7 = .ok (.ifCond .eq 17, 3) := by decide +kernel
theorem dX6_setClass_10 : decode cX6_setClass 10 = .ok (.iload_n 3, 1) := by decide +kernel
theorem dX6_setClass_11 : decode cX6_setClass 11 = .ok (.iconst 0, 1) := by decide +kernel
theorem dX6_setClass_12 : decode cX6_setClass 12 = .ok (.bipush 15, 2) := by decide +kernel
theorem dX6_setClass_14 : decode cX6_setClass 14 = .ok (.invokestatic 84, 3) := by decide +kernel
theorem dX6_setClass_17 : decode cX6_setClass 17 = .ok (.ifCond .eq 7, 3) := by decide +kernel
theorem dX6_setClass_20 : decode cX6_setClass 20 = .ok (.iconst 1, 1) := by decide +kernel
theorem dX6_setClass_21 : decode cX6_setClass 21 = .ok (.goto 4, 3) := by decide +kernel
theorem dX6_setClass_24 : decode cX6_setClass 24 = .ok (.iconst 0, 1) := by decide +kernel
theorem dX6_setClass_25 : decode cX6_setClass 25 = .ok (.istore 4, 2) := by decide +kernel
theorem dX6_setClass_27 : decode cX6_setClass 27 = .ok (.aload_n 0, 1) := by decide +kernel
theorem dX6_setClass_28 : decode cX6_setClass 28 = .ok (.iload_n 1, 1) := by decide +kernel
theorem dX6_setClass_29 : decode cX6_setClass 29 = .ok (.iconst 0, 1) := by decide +kernel
theorem dX6_setClass_30 : decode cX6_setClass 30 = .ok (.iconst 2, 1) := by decide +kernel
theorem dX6_setClass_31 : decode cX6_setClass 31 = .ok (.invokestatic 84, 3) := by decide +kernel
theorem dX6_setClass_34 : decode cX6_setClass 34 = .ok (.ifCond .ne 7, 3) := by decide +kernel
theorem dX6_setClass_37 : decode cX6_setClass 37 = .ok (.iconst 1, 1) := by decide +kernel
theorem dX6_setClass_38 : decode cX6_setClass 38 = .ok (.goto 24, 3) := by decide +kernel
theorem dX6_setClass_41 : decode cX6_setClass 41 = .ok (.iload 4, 2) := by decide +kernel
theorem dX6_setClass_43 : decode cX6_setClass 43 = .ok (.ifCond .ne 7, 3) := by decide +kernel
theorem dX6_setClass_46 : decode cX6_setClass 46 = .ok (.iconst 2, 1) := by decide +kernel
theorem dX6_setClass_47 : decode cX6_setClass 47 = .ok (.goto 15, 3) := by decide +kernel
theorem dX6_setClass_50 : decode cX6_setClass 50 = .ok (.aload_n 0, 1) := by decide +kernel
theorem dX6_setClass_51 : decode cX6_setClass 51 = .ok (.getfield 88, 3) := by decide +kernel
theorem dX6_setClass_54 : decode cX6_setClass 54 = .ok (.ifCond .le 7, 3) := by decide +kernel
theorem dX6_setClass_57 : decode cX6_setClass 57 = .ok (.iconst 3, 1) := by decide +kernel
theorem dX6_setClass_58 : decode cX6_setClass 58 = .ok (.goto 4, 3) := by decide +kernel
theorem dX6_setClass_61 : decode cX6_setClass 61 = .ok (.iconst 0, 1) := by decide +kernel
theorem dX6_setClass_62 : decode cX6_setClass 62 = .ok (.putfield 80, 3) := by decide +kernel
theorem dX6_setClass_65 : decode cX6_setClass 65 = .ok (.aload_n 0, 1) := by decide +kernel
theorem dX6_setClass_66 : decode cX6_setClass 66 = .ok (.getfield 80, 3) := by decide +kernel
theorem dX6_setClass_69 : decode cX6_setClass 69 = .ok (.ifCond .ne 19, 3) := by decide +kernel
theorem dX6_setClass_72 : decode cX6_setClass 72 = .ok (.aload_n 0, 1) := by decide +kernel
theorem dX6_setClass_73 : decode cX6_setClass 73 = .ok (.getfield 7, 3) := by decide +kernel
theorem dX6_setClass_76 : decode cX6_setClass 76 = .ok (.iload_n 1, 1) := by decide +kernel
theorem dX6_setClass_77 : decode cX6_setClass 77 = .ok (.iload_n 2, 1) := by decide +kernel
theorem dX6_setClass_78 : decode cX6_setClass 78 = .ok (.iastore, 1) := by decide +kernel
theorem dX6_setClass_79 : decode cX6_setClass 79 = .ok (.aload_n 0, 1) := by decide +kernel
theorem dX6_setClass_80 : decode cX6_setClass 80 = .ok (.getfield 13, 3) := by decide +kernel
theorem dX6_setClass_83 : decode cX6_setClass 83 = .ok (.iload_n 1, 1) := by decide +kernel
theorem dX6_setClass_84 : decode cX6_setClass 84 = .ok (.iload_n 3, 1) := by decide +kernel
theorem dX6_setClass_85 : decode cX6_setClass 85 = .ok (.iload_n 2, 1) := by decide +kernel
theorem dX6_setClass_86 : decode cX6_setClass 86 = .ok (.ior, 1) := by decide +kernel
theorem dX6_setClass_87 : decode cX6_setClass 87 = .ok (.iastore, 1) := by decide +kernel
theorem dX6_setClass_88 : decode cX6_setClass 88 = .ok (.return_, 1) := by decide +kernel
theorem dX6_allowed_0 : decode cX6_allowed 0 = .ok (.aload_n 0, 1) := by decide +kernel
theorem dX6_allowed_1 : decode cX6_allowed 1 = .ok (.getfield 13, 3) := by decide +kernel
theorem dX6_allowed_4 : decode cX6_allowed 4 = .ok (.aload_n 0, 1) := by decide +kernel
theorem dX6_allowed_5 : decode cX6_allowed 5 = .ok (.getfield 71, 3) := by decide +kernel
theorem dX6_allowed_8 : decode cX6_allowed 8 = .ok (.iload_n 1, 1) := by decide +kernel
theorem dX6_allowed_9 : decode cX6_allowed 9 = .ok (.iaload, 1) := by decide +kernel
theorem dX6_allowed_10 : decode cX6_allowed 10 = .ok (.iaload, 1) := by decide +kernel
theorem dX6_allowed_11 : decode cX6_allowed 11 = .ok (.iload_n 2, 1) := by decide +kernel
theorem dX6_allowed_12 : decode cX6_allowed 12 = .ok (.ishr, 1) := by decide +kernel
theorem dX6_allowed_13 : decode cX6_allowed 13 = .ok (.iconst 1, 1) := by decide +kernel
theorem dX6_allowed_14 : decode cX6_allowed 14 = .ok (.iand, 1) := by decide +kernel
theorem dX6_allowed_15 : decode cX6_allowed 15 = .ok (.iconst 1, 1) := by decide +kernel
theorem dX6_allowed_16 : decode cX6_allowed 16 = .ok (.if_icmp .ne 7, 3) := by decide +kernel
theorem dX6_allowed_19 : decode cX6_allowed 19 = .ok (.iconst 1, 1) := by decide +kernel
theorem dX6_allowed_20 : decode cX6_allowed 20 = .ok (.goto 4, 3) := by decide +kernel
theorem dX6_allowed_23 : decode cX6_allowed 23 = .ok (.iconst 0, 1) := by decide +kernel
theorem dX6_allowed_24 : decode cX6_allowed 24 = .ok (.ireturn, 1) := by decide +kernel
theorem dX6_alike_0 : decode cX6_alike 0 = .ok (.iload_n 0, 1) := by decide +kernel
theorem dX6_alike_1 : decode cX6_alike 1 = .ok (.ifCond .lt 22, 3) := by decide +kernel
theorem dX6_alike_4 : decode cX6_alike 4 = .ok (.iload_n 1, 1) := by decide +kernel
theorem dX6_alike_5 : decode cX6_alike 5 = .ok (.ifCond .lt 18, 3) := by decide +kernel
theorem dX6_alike_8 : decode cX6_alike 8 = .ok (.iload_n 0, 1) := by decide +kernel
theorem dX6_alike_9 : decode cX6_alike 9 = .ok (.bipush 50, 2) := by decide +kernel
theorem dX6_alike_11 : decode cX6_alike 11 = .ok (.irem, 1) := by decide +kernel
theorem dX6_alike_12 : decode cX6_alike 12 = .ok (.iload_n 1, 1) := by decide +kernel
theorem dX6_alike_13 : decode cX6_alike 13 = .ok (.bipush 50, 2) := by decide +kernel
theorem dX6_alike_15 : decode cX6_alike 15 = .ok (.irem, 1) := by decide +kernel
theorem dX6_alike_16 : decode cX6_alike 16 = .ok (.if_icmp .ne 7, 3) := by decide +kernel
theorem dX6_alike_19 : decode cX6_alike 19 = .ok (.iconst 1, 1) := by decide +kernel
theorem dX6_alike_20 : decode cX6_alike 20 = .ok (.goto 4, 3) := by decide +kernel
theorem dX6_alike_23 : decode cX6_alike 23 = .ok (.iconst 0, 1) := by decide +kernel
theorem dX6_alike_24 : decode cX6_alike 24 = .ok (.ireturn, 1) := by decide +kernel
set_option maxRecDepth 20000 in
theorem ggX6_finds_X6_alike : GoodIn wsX6_finds wsX6_alike := goodIn_r _ [7] (by decide +kernel) (by decide +kernel)
set_option maxRecDepth 20000 in
theorem gX6_finds_X6_alike : GoodIn wsX6_finds (va_wsS RX6 91 yX6_alike wsX6_alike) := goodIn_app (goodIn_of _ (by decide +kernel)) ggX6_finds_X6_alike
theorem dX6_finds_0 : decode cX6_finds 0 = .ok (.iconst (-1), 1) := by decide +kernel
theorem dX6_finds_1 : decode cX6_finds 1 = .ok (.istore 4, 2) := by decide +kernel
theorem dX6_finds_3 : decode cX6_finds 3 = .ok (.iconst 0, 1) := by decide +kernel
theorem dX6_finds_4 : decode cX6_finds 4 = .ok (.istore 5, 2) := by decide +kernel
theorem dX6_finds_6 : decode cX6_finds 6 = .ok (.iload 5, 2) := by decide +kernel
theorem dX6_finds_8 : decode cX6_finds 8 = .ok (.bipush 42, 2) := by decide +kernel
theorem dX6_finds_10 : decode cX6_finds 10 = .ok (.if_icmp .ge 59, 3) := by decide +kernel
theorem dX6_finds_13 : decode cX6_finds 13 = .ok (.aload_n 0, 1) := by decide +kernel
theorem dX6_finds_14 : decode cX6_finds 14 = .ok (.getfield 62, 3) := by decide +kernel
theorem dX6_finds_17 : decode cX6_finds 17 = .ok (.iload 5, 2) := by decide +kernel
theorem dX6_finds_19 : decode cX6_finds 19 = .ok (.baload, 1) := by decide +kernel
theorem dX6_finds_20 : decode cX6_finds 20 = .ok (.ifCond .eq 39, 3) := by decide +kernel
theorem dX6_finds_23 : decode cX6_finds 23 = .ok (.iload 5, 2) := by decide +kernel
theorem dX6_finds_25 : decode cX6_finds 25 = .ok (.iload_n 3, 1) := by decide +kernel
theorem dX6_finds_26 : decode cX6_finds 26 = .ok (.if_icmp .eq 33, 3) := by decide +kernel
theorem dX6_finds_29 : decode cX6_finds 29 = .ok (.aload_n 0, 1) := by decide +kernel
theorem dX6_finds_30 : decode cX6_finds 30 = .ok (.getfield 65, 3) := by decide +kernel
theorem dX6_finds_33 : decode cX6_finds 33 = .ok (.iload 5, 2) := by decide +kernel
theorem dX6_finds_35 : decode cX6_finds 35 = .ok (.iaload, 1) := by decide +kernel
theorem dX6_finds_36 : decode cX6_finds 36 = .ok (.iload_n 1, 1) := by decide +kernel
theorem dX6_finds_37 : decode cX6_finds 37 = .ok (.if_icmp .ne 22, 3) := by decide +kernel
theorem dX6_finds_40 : decode cX6_finds 40 = .ok (.aload_n 0, 1) := by decide +kernel
theorem dX6_finds_41 : decode cX6_finds 41 = .ok (.getfield 68, 3) := by decide +kernel
theorem dX6_finds_44 : decode cX6_finds 44 = .ok (.iload 5, 2) := by decide +kernel
theorem dX6_finds_46 : decode cX6_finds 46 = .ok (.iaload, 1) := by decide +kernel
theorem dX6_finds_47 : decode cX6_finds 47 = .ok (.iload_n 2, 1) := by decide +kernel
theorem dX6_finds_48 : decode cX6_finds 48 = .ok (.invokestatic 91, 3) := by decide +kernel
theorem dX6_finds_51 : decode cX6_finds 51 = .ok (.ifCond .eq 8, 3) := by decide +kernel
theorem dX6_finds_54 : decode cX6_finds 54 = .ok (.iload 5, 2) := by decide +kernel
theorem dX6_finds_56 : decode cX6_finds 56 = .ok (.goto 5, 3) := by decide +kernel
theorem dX6_finds_59 : decode cX6_finds 59 = .ok (.iload 4, 2) := by decide +kernel
theorem dX6_finds_61 : decode cX6_finds 61 = .ok (.istore 4, 2) := by decide +kernel
theorem dX6_finds_63 : decode cX6_finds 63 = .ok (.iinc 5 1, 3) := by decide +kernel
theorem dX6_finds_66 : decode cX6_finds 66 = .ok (.goto (-60), 3) := by decide +kernel
theorem dX6_finds_69 : decode cX6_finds 69 = .ok (.iload 4, 2) := by decide +kernel
theorem dX6_finds_71 : decode cX6_finds 71 = .ok (.ireturn, 1) := by decide +kernel
theorem dX6_isWithin_0 : decode cX6_isWithin 0 = .ok (.iload_n 1, 1) := by decide +kernel
theorem dX6_isWithin_1 : decode cX6_isWithin 1 = .ok (.istore_n 3, 1) := by decide +kernel
theorem dX6_isWithin_2 : decode cX6_isWithin 2 = .ok (.iload_n 3, 1) := by decide +kernel
theorem dX6_isWithin_3 : decode cX6_isWithin 3 = .ok (.ifCond .eq 18, 3) := by decide +kernel
theorem dX6_isWithin_6 : decode cX6_isWithin 6 = .ok (.iload_n 3, 1) := by decide +kernel
theorem dX6_isWithin_7 : decode cX6_isWithin 7 = .ok (.iload_n 2, 1) := by decide +kernel
theorem dX6_isWithin_8 : decode cX6_isWithin 8 = .ok (.if_icmp .eq 13, 3) := by decide +kernel
theorem dX6_isWithin_11 : decode cX6_isWithin 11 = .ok (.aload_n 0, 1) := by decide +kernel
theorem dX6_isWithin_12 : decode cX6_isWithin 12 = .ok (.getfield 65, 3) := by decide +kernel
theorem dX6_isWithin_15 : decode cX6_isWithin 15 = .ok (.iload_n 3, 1) := by decide +kernel
theorem dX6_isWithin_16 : decode cX6_isWithin 16 = .ok (.iaload, 1) := by decide +kernel
theorem dX6_isWithin_17 : decode cX6_isWithin 17 = .ok (.istore_n 3, 1) := by decide +kernel
theorem dX6_isWithin_18 : decode cX6_isWithin 18 = .ok (.goto (-16), 3) := by decide +kernel
theorem dX6_isWithin_21 : decode cX6_isWithin 21 = .ok (.iload_n 3, 1) := by decide +kernel
theorem dX6_isWithin_22 : decode cX6_isWithin 22 = .ok (.iload_n 2, 1) := by decide +kernel
theorem dX6_isWithin_23 : decode cX6_isWithin 23 = .ok (.if_icmp .ne 7, 3) := by decide +kernel
theorem dX6_isWithin_26 : decode cX6_isWithin 26 = .ok (.iconst 1, 1) := by decide +kernel
theorem dX6_isWithin_27 : decode cX6_isWithin 27 = .ok (.goto 4, 3) := by decide +kernel
theorem dX6_isWithin_30 : decode cX6_isWithin 30 = .ok (.iconst 0, 1) := by decide +kernel
theorem dX6_isWithin_31 : decode cX6_isWithin 31 = .ok (.ireturn, 1) := by decide +kernel
set_option maxRecDepth 20000 in
theorem ggX6_hangs_X6_finds : GoodIn wsX6_hangs wsX6_finds := goodIn_r _ [8, 2, 1, 3, 9, 10, 7, 11, 12, 13, 14, 15, 16, 17, 18, 19, 20, 21, 22, 23, 24, 25, 26, 27, 28, 29, 30, 31, 32, 33, 34, 35, 36, 37] (by decide +kernel) (by decide +kernel)
set_option maxRecDepth 20000 in
theorem gX6_hangs_X6_finds : GoodIn wsX6_hangs (wsV RX6 95 RX6 yX6_finds wsX6_finds) := goodIn_app (goodIn_of _ (by decide +kernel)) ggX6_hangs_X6_finds
theorem dX6_hangs_0 : decode cX6_hangs 0 = .ok (.aload_n 0, 1) := by decide +kernel
theorem dX6_hangs_1 : decode cX6_hangs 1 = .ok (.getfield 65, 3) := by decide +kernel
theorem dX6_hangs_4 : decode cX6_hangs 4 = .ok (.iload_n 1, 1) := by decide +kernel
theorem dX6_hangs_5 : decode cX6_hangs 5 = .ok (.aload_n 0, 1) := by decide +kernel
theorem dX6_hangs_6 : decode cX6_hangs 6 = .ok (.getfield 62, 3) := by decide +kernel
theorem dX6_hangs_9 : decode cX6_hangs 9 = .ok (.iload_n 2, 1) := by decide +kernel
theorem dX6_hangs_10 : decode cX6_hangs 10 = .ok (.baload, 1) := by decide +kernel
theorem dX6_hangs_11 : decode cX6_hangs 11 = .ok (.ifCond .eq 7, 3) := by decide +kernel
theorem dX6_hangs_14 : decode cX6_hangs 14 = .ok (.iload_n 2, 1) := by decide +kernel
theorem dX6_hangs_15 : decode cX6_hangs 15 = .ok (.goto 4, 3) := by decide +kernel
theorem dX6_hangs_18 : decode cX6_hangs 18 = .ok (.iconst 1, 1) := by decide +kernel
theorem dX6_hangs_19 : decode cX6_hangs 19 = .ok (.iastore, 1) := by decide +kernel
theorem dX6_hangs_20 : decode cX6_hangs 20 = .ok (.aload_n 0, 1) := by decide +kernel
theorem dX6_hangs_21 : decode cX6_hangs 21 = .ok (.getfield 68, 3) := by decide +kernel
theorem dX6_hangs_24 : decode cX6_hangs 24 = .ok (.iload_n 1, 1) := by decide +kernel
theorem dX6_hangs_25 : decode cX6_hangs 25 = .ok (.aload_n 0, 1) := by decide +kernel
theorem dX6_hangs_26 : decode cX6_hangs 26 = .ok (.aload_n 0, 1) := by decide +kernel
theorem dX6_hangs_27 : decode cX6_hangs 27 = .ok (.getfield 65, 3) := by decide +kernel
theorem dX6_hangs_30 : decode cX6_hangs 30 = .ok (.iload_n 1, 1) := by decide +kernel
theorem dX6_hangs_31 : decode cX6_hangs 31 = .ok (.iaload, 1) := by decide +kernel
theorem dX6_hangs_32 : decode cX6_hangs 32 = .ok (.aload_n 0, 1) := by decide +kernel
theorem dX6_hangs_33 : decode cX6_hangs 33 = .ok (.getfield 68, 3) := by decide +kernel
theorem dX6_hangs_36 : decode cX6_hangs 36 = .ok (.iload_n 1, 1) := by decide +kernel
theorem dX6_hangs_37 : decode cX6_hangs 37 = .ok (.iaload, 1) := by decide +kernel
theorem dX6_hangs_38 : decode cX6_hangs 38 = .ok (.iload_n 1, 1) := by decide +kernel
theorem dX6_hangs_39 : decode cX6_hangs 39 = .ok (.invokevirtual 95, 3) := by decide +kernel
theorem dX6_hangs_42 : decode cX6_hangs 42 = .ok (.ifCond .ge 12, 3) := by decide +kernel
theorem dX6_hangs_45 : decode cX6_hangs 45 = .ok (.aload_n 0, 1) := by decide +kernel
theorem dX6_hangs_46 : decode cX6_hangs 46 = .ok (.getfield 68, 3) := by decide +kernel
theorem dX6_hangs_49 : decode cX6_hangs 49 = .ok (.iload_n 1, 1) := by decide +kernel
theorem dX6_hangs_50 : decode cX6_hangs 50 = .ok (.iaload, 1) := by decide +kernel
theorem dX6_hangs_51 : decode cX6_hangs 51 = .ok (.goto 4, 3) := by decide +kernel
theorem dX6_hangs_54 : decode cX6_hangs 54 = .ok (.iconst (-1), 1) := by decide +kernel
theorem dX6_hangs_55 : decode cX6_hangs 55 = .ok (.iastore, 1) := by decide +kernel
theorem dX6_hangs_56 : decode cX6_hangs 56 = .ok (.return_, 1) := by decide +kernel
set_option maxRecDepth 20000 in
theorem ggX6_does_X6_hangs : GoodIn wsX6_does wsX6_hangs := goodIn_r _ [16, 11, 3, 6, 17, 18, 19, 15, 20, 21, 22, 23, 33, 34, 35, 36, 37, 38, 39, 40, 41, 42, 43, 44, 45, 46, 47, 48, 49, 50, 51, 52, 53, 54, 55, 56, 57, 58] (by decide +kernel) (by decide +kernel)
set_option maxRecDepth 20000 in
theorem gX6_does_X6_hangs : GoodIn wsX6_does (wsV RX6 99 RX6 yX6_hangs wsX6_hangs) := goodIn_app (goodIn_of _ (by decide +kernel)) ggX6_does_X6_hangs
set_option maxRecDepth 20000 in
theorem ggX6_does_X6_allowed : GoodIn wsX6_does wsX6_allowed := goodIn_r _ [27, 28, 4, 33, 34, 35, 36, 37, 38, 39, 40, 41, 42, 43, 44, 45, 46, 47, 48, 49, 50, 51, 52, 53, 54, 55, 56, 57, 58] (by decide +kernel) (by decide +kernel)
set_option maxRecDepth 20000 in
theorem gX6_does_X6_allowed : GoodIn wsX6_does (wsV RX6 103 RX6 yX6_allowed wsX6_allowed) := goodIn_app (goodIn_of _ (by decide +kernel)) ggX6_does_X6_allowed
set_option maxRecDepth 20000 in
theorem ggX6_does_X6_isWithin : GoodIn wsX6_does wsX6_isWithin := goodIn_r _ [32, 11, 33, 34, 35, 36, 37, 38, 39, 40, 41, 42, 43, 44, 45, 46, 47, 48, 49, 50, 51, 52, 53, 54, 55, 56, 57, 58] (by decide +kernel) (by decide +kernel)
set_option maxRecDepth 20000 in
theorem gX6_does_X6_isWithin : GoodIn wsX6_does (wsV RX6 106 RX6 yX6_isWithin wsX6_isWithin) := goodIn_app (goodIn_of _ (by decide +kernel)) ggX6_does_X6_isWithin
theorem dX6_does_0 : decode cX6_does 0 = .ok (.aload_n 0, 1) := by decide +kernel
theorem dX6_does_1 : decode cX6_does 1 = .ok (.getfield 19, 3) := by decide +kernel
theorem dX6_does_4 : decode cX6_does 4 = .ok (.iload_n 1, 1) := by decide +kernel
theorem dX6_does_5 : decode cX6_does 5 = .ok (.iaload, 1) := by decide +kernel
theorem dX6_does_6 : decode cX6_does 6 = .ok (.istore_n 2, 1) := by decide +kernel
theorem dX6_does_7 : decode cX6_does 7 = .ok (.aload_n 0, 1) := by decide +kernel
theorem dX6_does_8 : decode cX6_does 8 = .ok (.getfield 16, 3) := by decide +kernel
theorem dX6_does_11 : decode cX6_does 11 = .ok (.iload_n 1, 1) := by decide +kernel
theorem dX6_does_12 : decode cX6_does 12 = .ok (.iaload, 1) := by decide +kernel
theorem dX6_does_13 : decode cX6_does 13 = .ok (.ifCond .ne 45, 3) := by decide +kernel
theorem dX6_does_16 : decode cX6_does 16 = .ok (.aload_n 0, 1) := by decide +kernel
theorem dX6_does_17 : decode cX6_does 17 = .ok (.getfield 62, 3) := by decide +kernel
theorem dX6_does_20 : decode cX6_does 20 = .ok (.iload_n 2, 1) := by decide +kernel
theorem dX6_does_21 : decode cX6_does 21 = .ok (.iconst 1, 1) := by decide +kernel
theorem dX6_does_22 : decode cX6_does 22 = .ok (.bastore, 1) := by decide +kernel
theorem dX6_does_23 : decode cX6_does 23 = .ok (.aload_n 0, 1) := by decide +kernel
theorem dX6_does_24 : decode cX6_does 24 = .ok (.getfield 71, 3) := by decide +kernel
theorem dX6_does_27 : decode cX6_does 27 = .ok (.iload_n 2, 1) := by decide +kernel
theorem dX6_does_28 : decode cX6_does 28 = .ok (.aload_n 0, 1) := by decide +kernel
theorem dX6_does_29 : decode cX6_does 29 = .ok (.getfield 28, 3) := by decide +kernel
theorem dX6_does_32 : decode cX6_does 32 = .ok (.iload_n 1, 1) := by decide +kernel
theorem dX6_does_33 : decode cX6_does 33 = .ok (.iaload, 1) := by decide +kernel
theorem dX6_does_34 : decode cX6_does 34 = .ok (.iastore, 1) := by decide +kernel
theorem dX6_does_35 : decode cX6_does 35 = .ok (.aload_n 0, 1) := by decide +kernel
theorem dX6_does_36 : decode cX6_does 36 = .ok (.getfield 68, 3) := by decide +kernel
theorem dX6_does_39 : decode cX6_does 39 = .ok (.iload_n 2, 1) := by decide +kernel
theorem dX6_does_40 : decode cX6_does 40 = .ok (.aload_n 0, 1) := by decide +kernel
theorem dX6_does_41 : decode cX6_does 41 = .ok (.getfield 25, 3) := by decide +kernel
theorem dX6_does_44 : decode cX6_does 44 = .ok (.iload_n 1, 1) := by decide +kernel
theorem dX6_does_45 : decode cX6_does 45 = .ok (.iaload, 1) := by decide +kernel
theorem dX6_does_46 : decode cX6_does 46 = .ok (.iastore, 1) := by decide +kernel
theorem dX6_does_47 : decode cX6_does 47 = .ok (.aload_n 0, 1) := by decide +kernel
theorem dX6_does_48 : decode cX6_does 48 = .ok (.iload_n 2, 1) := by decide +kernel
theorem dX6_does_49 : decode cX6_does 49 = .ok (.aload_n 0, 1) := by decide +kernel
theorem dX6_does_50 : decode cX6_does 50 = .ok (.getfield 22, 3) := by decide +kernel
theorem dX6_does_53 : decode cX6_does 53 = .ok (.iload_n 1, 1) := by decide +kernel
theorem dX6_does_54 : decode cX6_does 54 = .ok (.iaload, 1) := by decide +kernel
theorem dX6_does_55 : decode cX6_does 55 = .ok (.invokevirtual 99, 3) := by decide +kernel
theorem dX6_does_58 : decode cX6_does 58 = .ok (.aload_n 0, 1) := by decide +kernel
theorem dX6_does_59 : decode cX6_does 59 = .ok (.getfield 16, 3) := by decide +kernel
theorem dX6_does_62 : decode cX6_does 62 = .ok (.iload_n 1, 1) := by decide +kernel
theorem dX6_does_63 : decode cX6_does 63 = .ok (.iaload, 1) := by decide +kernel
theorem dX6_does_64 : decode cX6_does 64 = .ok (.iconst 1, 1) := by decide +kernel
theorem dX6_does_65 : decode cX6_does 65 = .ok (.if_icmp .ne 47, 3) := by decide +kernel
theorem dX6_does_68 : decode cX6_does 68 = .ok (.aload_n 0, 1) := by decide +kernel
theorem dX6_does_69 : decode cX6_does 69 = .ok (.getfield 62, 3) := by decide +kernel
theorem dX6_does_72 : decode cX6_does 72 = .ok (.iload_n 2, 1) := by decide +kernel
theorem dX6_does_73 : decode cX6_does 73 = .ok (.baload, 1) := by decide +kernel
theorem dX6_does_74 : decode cX6_does 74 = .ok (.ifCond .eq 38, 3) := by decide +kernel
theorem dX6_does_77 : decode cX6_does 77 = .ok (.aload_n 0, 1) := by decide +kernel
theorem dX6_does_78 : decode cX6_does 78 = .ok (.iload_n 2, 1) := by decide +kernel
theorem dX6_does_79 : decode cX6_does 79 = .ok (.aload_n 0, 1) := by decide +kernel
theorem dX6_does_80 : decode cX6_does 80 = .ok (.getfield 28, 3) := by decide +kernel
theorem dX6_does_83 : decode cX6_does 83 = .ok (.iload_n 1, 1) := by decide +kernel
theorem dX6_does_84 : decode cX6_does 84 = .ok (.iaload, 1) := by decide +kernel
theorem dX6_does_85 : decode cX6_does 85 = .ok (.invokevirtual 103, 3) := by decide +kernel
theorem dX6_does_88 : decode cX6_does 88 = .ok (.ifCond .eq 24, 3) := by decide +kernel
theorem dX6_does_91 : decode cX6_does 91 = .ok (.aload_n 0, 1) := by decide +kernel
theorem dX6_does_92 : decode cX6_does 92 = .ok (.getfield 74, 3) := by decide +kernel
theorem dX6_does_95 : decode cX6_does 95 = .ok (.iconst 4, 1) := by decide +kernel
theorem dX6_does_96 : decode cX6_does 96 = .ok (.iload_n 2, 1) := by decide +kernel
theorem dX6_does_97 : decode cX6_does 97 = .ok (.imul, 1) := by decide +kernel
theorem dX6_does_98 : decode cX6_does 98 = .ok (.aload_n 0, 1) := by decide +kernel
theorem dX6_does_99 : decode cX6_does 99 = .ok (.getfield 28, 3) := by decide +kernel
theorem dX6_does_102 : decode cX6_does 102 = .ok (.iload_n 1, 1) := by decide +kernel
theorem dX6_does_103 : decode cX6_does 103 = .ok (.iaload, 1) := by decide +kernel
theorem dX6_does_104 : decode cX6_does 104 = .ok (.iadd, 1) := by decide +kernel
theorem dX6_does_105 : decode cX6_does 105 = .ok (.aload_n 0, 1) := by decide +kernel
theorem dX6_does_106 : decode cX6_does 106 = .ok (.getfield 31, 3) := by decide +kernel
theorem dX6_does_109 : decode cX6_does 109 = .ok (.iload_n 1, 1) := by decide +kernel
theorem dX6_does_110 : decode cX6_does 110 = .ok (.iaload, 1) := by decide +kernel
theorem dX6_does_111 : decode cX6_does 111 = .ok (.iastore, 1) := by decide +kernel
theorem dX6_does_112 : decode cX6_does 112 = .ok (.aload_n 0, 1) := by decide +kernel
theorem dX6_does_113 : decode cX6_does 113 = .ok (.getfield 16, 3) := by decide +kernel
theorem dX6_does_116 : decode cX6_does 116 = .ok (.iload_n 1, 1) := by decide +kernel
theorem dX6_does_117 : decode cX6_does 117 = .ok (.iaload, 1) := by decide +kernel
theorem dX6_does_118 : decode cX6_does 118 = .ok (.iconst 2, 1) := by decide +kernel
theorem dX6_does_119 : decode cX6_does 119 = .ok (.if_icmp .ne 63, 3) := by decide +kernel
theorem dX6_does_122 : decode cX6_does 122 = .ok (.aload_n 0, 1) := by decide +kernel
theorem dX6_does_123 : decode cX6_does 123 = .ok (.getfield 62, 3) := by decide +kernel
theorem dX6_does_126 : decode cX6_does 126 = .ok (.iload_n 2, 1) := by decide +kernel
theorem dX6_does_127 : decode cX6_does 127 = .ok (.baload, 1) := by decide +kernel
theorem dX6_does_128 : decode cX6_does 128 = .ok (.ifCond .eq 54, 3) := by decide +kernel
theorem dX6_does_131 : decode cX6_does 131 = .ok (.aload_n 0, 1) := by decide +kernel
theorem dX6_does_132 : decode cX6_does 132 = .ok (.getfield 62, 3) := by decide +kernel
theorem dX6_does_135 : decode cX6_does 135 = .ok (.aload_n 0, 1) := by decide +kernel
theorem dX6_does_136 : decode cX6_does 136 = .ok (.getfield 22, 3) := by decide +kernel
theorem dX6_does_139 : decode cX6_does 139 = .ok (.iload_n 1, 1) := by decide +kernel
theorem dX6_does_140 : decode cX6_does 140 = .ok (.iaload, 1) := by decide +kernel
theorem dX6_does_141 : decode cX6_does 141 = .ok (.baload, 1) := by decide +kernel
theorem dX6_does_142 : decode cX6_does 142 = .ok (.ifCond .eq 17, 3) := by decide +kernel
theorem dX6_does_145 : decode cX6_does 145 = .ok (.aload_n 0, 1) := by decide +kernel
theorem dX6_does_146 : decode cX6_does 146 = .ok (.aload_n 0, 1) := by decide +kernel
theorem dX6_does_147 : decode cX6_does 147 = .ok (.getfield 22, 3) := by decide +kernel
theorem dX6_does_150 : decode cX6_does 150 = .ok (.iload_n 1, 1) := by decide +kernel
theorem dX6_does_151 : decode cX6_does 151 = .ok (.iaload, 1) := by decide +kernel
theorem dX6_does_152 : decode cX6_does 152 = .ok (.iload_n 2, 1) := by decide +kernel
theorem dX6_does_153 : decode cX6_does 153 = .ok (.invokevirtual 106, 3) := by decide +kernel
theorem dX6_does_156 : decode cX6_does 156 = .ok (.ifCond .ne 26, 3) := by decide +kernel
theorem dX6_does_159 : decode cX6_does 159 = .ok (.aload_n 0, 1) := by decide +kernel
theorem dX6_does_160 : decode cX6_does 160 = .ok (.getfield 68, 3) := by decide +kernel
theorem dX6_does_163 : decode cX6_does 163 = .ok (.iload_n 2, 1) := by decide +kernel
theorem dX6_does_164 : decode cX6_does 164 = .ok (.aload_n 0, 1) := by decide +kernel
theorem dX6_does_165 : decode cX6_does 165 = .ok (.getfield 25, 3) := by decide +kernel
theorem dX6_does_168 : decode cX6_does 168 = .ok (.iload_n 1, 1) := by decide +kernel
theorem dX6_does_169 : decode cX6_does 169 = .ok (.iaload, 1) := by decide +kernel
theorem dX6_does_170 : decode cX6_does 170 = .ok (.iastore, 1) := by decide +kernel
theorem dX6_does_171 : decode cX6_does 171 = .ok (.aload_n 0, 1) := by decide +kernel
theorem dX6_does_172 : decode cX6_does 172 = .ok (.iload_n 2, 1) := by decide +kernel
theorem dX6_does_173 : decode cX6_does 173 = .ok (.aload_n 0, 1) := by decide +kernel
theorem dX6_does_174 : decode cX6_does 174 = .ok (.getfield 22, 3) := by decide +kernel
theorem dX6_does_177 : decode cX6_does 177 = .ok (.iload_n 1, 1) := by decide +kernel
theorem dX6_does_178 : decode cX6_does 178 = .ok (.iaload, 1) := by decide +kernel
theorem dX6_does_179 : decode cX6_does 179 = .ok (.invokevirtual 99, 3) := by decide +kernel
theorem dX6_does_182 : decode cX6_does 182 = .ok (.aload_n 0, 1) := by decide +kernel
theorem dX6_does_183 : decode cX6_does 183 = .ok (.getfield 16, 3) := by decide +kernel
theorem dX6_does_186 : decode cX6_does 186 = .ok (.iload_n 1, 1) := by decide +kernel
theorem dX6_does_187 : decode cX6_does 187 = .ok (.iaload, 1) := by decide +kernel
theorem dX6_does_188 : decode cX6_does 188 = .ok (.iconst 3, 1) := by decide +kernel
theorem dX6_does_189 : decode cX6_does 189 = .ok (.if_icmp .ne 58, 3) := by decide +kernel
theorem dX6_does_192 : decode cX6_does 192 = .ok (.aload_n 0, 1) := by decide +kernel
theorem dX6_does_193 : decode cX6_does 193 = .ok (.getfield 62, 3) := by decide +kernel
theorem dX6_does_196 : decode cX6_does 196 = .ok (.iload_n 2, 1) := by decide +kernel
theorem dX6_does_197 : decode cX6_does 197 = .ok (.baload, 1) := by decide +kernel
theorem dX6_does_198 : decode cX6_does 198 = .ok (.ifCond .eq 49, 3) := by decide +kernel
theorem dX6_does_201 : decode cX6_does 201 = .ok (.aload_n 0, 1) := by decide +kernel
theorem dX6_does_202 : decode cX6_does 202 = .ok (.getfield 62, 3) := by decide +kernel
theorem dX6_does_205 : decode cX6_does 205 = .ok (.iload_n 2, 1) := by decide +kernel
theorem dX6_does_206 : decode cX6_does 206 = .ok (.iconst 0, 1) := by decide +kernel
theorem dX6_does_207 : decode cX6_does 207 = .ok (.bastore, 1) := by decide +kernel
theorem dX6_does_208 : decode cX6_does 208 = .ok (.iconst 0, 1) := by decide +kernel
theorem dX6_does_209 : decode cX6_does 209 = .ok (.istore_n 3, 1) := by decide +kernel
theorem dX6_does_210 : decode cX6_does 210 = .ok (.iload_n 3, 1) := by decide +kernel
theorem dX6_does_211 : decode cX6_does 211 = .ok (.bipush 42, 2) := by decide +kernel
theorem dX6_does_213 : decode cX6_does 213 = .ok (.if_icmp .ge 34, 3) := by decide +kernel
theorem dX6_does_216 : decode cX6_does 216 = .ok (.aload_n 0, 1) := by decide +kernel
theorem dX6_does_217 : decode cX6_does 217 = .ok (.getfield 62, 3) := by decide +kernel
theorem dX6_does_220 : decode cX6_does 220 = .ok (.iload_n 3, 1) := by decide +kernel
theorem dX6_does_221 : decode cX6_does 221 = .ok (.baload, 1) := by decide +kernel
theorem dX6_does_222 : decode cX6_does 222 = .ok (.ifCond .eq 19, 3) := by decide +kernel
theorem dX6_does_225 : decode cX6_does 225 = .ok (.aload_n 0, 1) := by decide +kernel
theorem dX6_does_226 : decode cX6_does 226 = .ok (.getfield 65, 3) := by decide +kernel
theorem dX6_does_229 : decode cX6_does 229 = .ok (.iload_n 3, 1) := by decide +kernel
theorem dX6_does_230 : decode cX6_does 230 = .ok (.iaload, 1) := by decide +kernel
theorem dX6_does_231 : decode cX6_does 231 = .ok (.iload_n 2, 1) := by decide +kernel
theorem dX6_does_232 : decode cX6_does 232 = .ok (.if_icmp .ne 9, 3) := by decide +kernel
theorem dX6_does_235 : decode cX6_does 235 = .ok (.aload_n 0, 1) := by decide +kernel
theorem dX6_does_236 : decode cX6_does 236 = .ok (.iload_n 3, 1) := by decide +kernel
theorem dX6_does_237 : decode cX6_does 237 = .ok (.iconst 1, 1) := by decide +kernel
theorem dX6_does_238 : decode cX6_does 238 = .ok (.invokevirtual 99, 3) := by decide +kernel
theorem dX6_does_241 : decode cX6_does 241 = .ok (.iinc 3 1, 3) := by decide +kernel
theorem dX6_does_244 : decode cX6_does 244 = .ok (.goto (-34), 3) := by decide +kernel
theorem dX6_does_247 : decode cX6_does 247 = .ok (.return_, 1) := by decide +kernel
theorem dX6_knows_0 : decode cX6_knows 0 = .ok (.aload_n 0, 1) := by decide +kernel
theorem dX6_knows_1 : decode cX6_knows 1 = .ok (.getfield 40, 3) := by decide +kernel
theorem dX6_knows_4 : decode cX6_knows 4 = .ok (.iload_n 1, 1) := by decide +kernel
theorem dX6_knows_5 : decode cX6_knows 5 = .ok (.iaload, 1) := by decide +kernel
theorem dX6_knows_6 : decode cX6_knows 6 = .ok (.iload_n 2, 1) := by decide +kernel
theorem dX6_knows_7 : decode cX6_knows 7 = .ok (.ishr, 1) := by decide +kernel
theorem dX6_knows_8 : decode cX6_knows 8 = .ok (.iconst 1, 1) := by decide +kernel
theorem dX6_knows_9 : decode cX6_knows 9 = .ok (.iand, 1) := by decide +kernel
theorem dX6_knows_10 : decode cX6_knows 10 = .ok (.iconst 1, 1) := by decide +kernel
theorem dX6_knows_11 : decode cX6_knows 11 = .ok (.if_icmp .ne 7, 3) := by decide +kernel
theorem dX6_knows_14 : decode cX6_knows 14 = .ok (.iconst 1, 1) := by decide +kernel
theorem dX6_knows_15 : decode cX6_knows 15 = .ok (.goto 4, 3) := by decide +kernel
theorem dX6_knows_18 : decode cX6_knows 18 = .ok (.iconst 0, 1) := by decide +kernel
theorem dX6_knows_19 : decode cX6_knows 19 = .ok (.ireturn, 1) := by decide +kernel
set_option maxRecDepth 20000 in
theorem ggX6_next_X6_knows : GoodIn wsX6_next wsX6_knows := goodIn_r _ [8, 9, 10, 11, 12, 13, 14, 15, 16, 17, 18, 19, 20, 21, 22, 23, 24, 25, 26, 27, 28, 29, 30, 31, 32, 33, 34, 35] (by decide +kernel) (by decide +kernel)
set_option maxRecDepth 20000 in
theorem gX6_next_X6_knows : GoodIn wsX6_next (wsV RX6 109 RX6 yX6_knows wsX6_knows) := goodIn_app (goodIn_of _ (by decide +kernel)) ggX6_next_X6_knows
theorem dX6_next_0 : decode cX6_next 0 = .ok (.iconst (-1), 1) := by decide +kernel
theorem dX6_next_1 : decode cX6_next 1 = .ok (.istore_n 3, 1) := by decide +kernel
theorem dX6_next_2 : decode cX6_next 2 = .ok (.iconst 0, 1) := by decide +kernel
theorem dX6_next_3 : decode cX6_next 3 = .ok (.istore 4, 2) := by decide +kernel
theorem dX6_next_5 : decode cX6_next 5 = .ok (.iload 4, 2) := by decide +kernel
theorem dX6_next_7 : decode cX6_next 7 = .ok (.aload_n 0, 1) := by decide +kernel
theorem dX6_next_8 : decode cX6_next 8 = .ok (.getfield 88, 3) := by decide +kernel
theorem dX6_next_11 : decode cX6_next 11 = .ok (.if_icmp .ge 98, 3) := by decide +kernel
theorem dX6_next_14 : decode cX6_next 14 = .ok (.aload_n 0, 1) := by decide +kernel
theorem dX6_next_15 : decode cX6_next 15 = .ok (.iload 4, 2) := by decide +kernel
theorem dX6_next_17 : decode cX6_next 17 = .ok (.iload_n 1, 1) := by decide +kernel
theorem dX6_next_18 : decode cX6_next 18 = .ok (.invokevirtual 109, 3) := by decide +kernel
theorem dX6_next_21 : decode cX6_next 21 = .ok (.ifCond .eq 28, 3) := by decide +kernel
theorem dX6_next_24 : decode cX6_next 24 = .ok (.iconst 2, 1) := by decide +kernel
theorem dX6_next_25 : decode cX6_next 25 = .ok (.aload_n 0, 1) := by decide +kernel
theorem dX6_next_26 : decode cX6_next 26 = .ok (.getfield 34, 3) := by decide +kernel
theorem dX6_next_29 : decode cX6_next 29 = .ok (.iload 4, 2) := by decide +kernel
theorem dX6_next_31 : decode cX6_next 31 = .ok (.iaload, 1) := by decide +kernel
theorem dX6_next_32 : decode cX6_next 32 = .ok (.imul, 1) := by decide +kernel
theorem dX6_next_33 : decode cX6_next 33 = .ok (.aload_n 0, 1) := by decide +kernel
theorem dX6_next_34 : decode cX6_next 34 = .ok (.getfield 37, 3) := by decide +kernel
theorem dX6_next_37 : decode cX6_next 37 = .ok (.iload 4, 2) := by decide +kernel
theorem dX6_next_39 : decode cX6_next 39 = .ok (.iaload, 1) := by decide +kernel
theorem dX6_next_40 : decode cX6_next 40 = .ok (.iadd, 1) := by decide +kernel
theorem dX6_next_41 : decode cX6_next 41 = .ok (.iload_n 2, 1) := by decide +kernel
theorem dX6_next_42 : decode cX6_next 42 = .ok (.if_icmp .le 7, 3) := by decide +kernel
theorem dX6_next_45 : decode cX6_next 45 = .ok (.iconst 1, 1) := by decide +kernel
theorem dX6_next_46 : decode cX6_next 46 = .ok (.goto 4, 3) := by decide +kernel
theorem dX6_next_49 : decode cX6_next 49 = .ok (.iconst 0, 1) := by decide +kernel
theorem dX6_next_50 : decode cX6_next 50 = .ok (.istore 5, 2) := by decide +kernel
theorem dX6_next_52 : decode cX6_next 52 = .ok (.iload 5, 2) := by decide +kernel
theorem dX6_next_54 : decode cX6_next 54 = .ok (.ifCond .eq 47, 3) := by decide +kernel
theorem dX6_next_57 : decode cX6_next 57 = .ok (.iload_n 3, 1) := by decide +kernel
theorem dX6_next_58 : decode cX6_next 58 = .ok (.ifCond .lt 38, 3) := by decide +kernel
theorem dX6_next_61 : decode cX6_next 61 = .ok (.iconst 2, 1) := by decide +kernel
theorem dX6_next_62 : decode cX6_next 62 = .ok (.aload_n 0, 1) := by decide +kernel
theorem dX6_next_63 : decode cX6_next 63 = .ok (.getfield 34, 3) := by decide +kernel
theorem dX6_next_66 : decode cX6_next 66 = .ok (.iload 4, 2) := by decide +kernel
theorem dX6_next_68 : decode cX6_next 68 = .ok (.iaload, 1) := by decide +kernel
theorem dX6_next_69 : decode cX6_next 69 = .ok (.imul, 1) := by decide +kernel
theorem dX6_next_70 : decode cX6_next 70 = .ok (.aload_n 0, 1) := by decide +kernel
theorem dX6_next_71 : decode cX6_next 71 = .ok (.getfield 37, 3) := by decide +kernel
theorem dX6_next_74 : decode cX6_next 74 = .ok (.iload 4, 2) := by decide +kernel
theorem dX6_next_76 : decode cX6_next 76 = .ok (.iaload, 1) := by decide +kernel
theorem dX6_next_77 : decode cX6_next 77 = .ok (.iadd, 1) := by decide +kernel
theorem dX6_next_78 : decode cX6_next 78 = .ok (.iconst 2, 1) := by decide +kernel
theorem dX6_next_79 : decode cX6_next 79 = .ok (.aload_n 0, 1) := by decide +kernel
theorem dX6_next_80 : decode cX6_next 80 = .ok (.getfield 34, 3) := by decide +kernel
theorem dX6_next_83 : decode cX6_next 83 = .ok (.iload_n 3, 1) := by decide +kernel
theorem dX6_next_84 : decode cX6_next 84 = .ok (.iaload, 1) := by decide +kernel
theorem dX6_next_85 : decode cX6_next 85 = .ok (.imul, 1) := by decide +kernel
theorem dX6_next_86 : decode cX6_next 86 = .ok (.aload_n 0, 1) := by decide +kernel
theorem dX6_next_87 : decode cX6_next 87 = .ok (.getfield 37, 3) := by decide +kernel
theorem dX6_next_90 : decode cX6_next 90 = .ok (.iload_n 3, 1) := by decide +kernel
theorem dX6_next_91 : decode cX6_next 91 = .ok (.iaload, 1) := by decide +kernel
theorem dX6_next_92 : decode cX6_next 92 = .ok (.iadd, 1) := by decide +kernel
theorem dX6_next_93 : decode cX6_next 93 = .ok (.if_icmp .ge 8, 3) := by decide +kernel
theorem dX6_next_96 : decode cX6_next 96 = .ok (.iload 4, 2) := by decide +kernel
theorem dX6_next_98 : decode cX6_next 98 = .ok (.goto 4, 3) := by decide +kernel
theorem dX6_next_101 : decode cX6_next 101 = .ok (.iload_n 3, 1) := by decide +kernel
theorem dX6_next_102 : decode cX6_next 102 = .ok (.istore_n 3, 1) := by decide +kernel
theorem dX6_next_103 : decode cX6_next 103 = .ok (.iinc 4 1, 3) := by decide +kernel
theorem dX6_next_106 : decode cX6_next 106 = .ok (.goto (-101), 3) := by decide +kernel
theorem dX6_next_109 : decode cX6_next 109 = .ok (.iload_n 3, 1) := by decide +kernel
theorem dX6_next_110 : decode cX6_next 110 = .ok (.ireturn, 1) := by decide +kernel
set_option maxRecDepth 20000 in
theorem ggX6_grows_X6_next : GoodIn wsX6_grows wsX6_next := goodIn_r _ [12, 13, 6, 7, 14, 15, 16, 11, 17, 18, 49, 50, 51, 52, 53, 54, 55, 56, 57, 58, 59, 60, 61, 62, 63, 64, 65, 66, 67, 68, 69, 70, 71, 72, 73, 74] (by decide +kernel) (by decide +kernel)
set_option maxRecDepth 20000 in
theorem gX6_grows_X6_next : GoodIn wsX6_grows (wsV RX6 112 RX6 yX6_next wsX6_next) := goodIn_app (goodIn_of _ (by decide +kernel)) ggX6_grows_X6_next
set_option maxRecDepth 20000 in
theorem ggX6_grows_X6_does : GoodIn wsX6_grows wsX6_does := goodIn_r _ [22, 23, 24, 1, 4, 25, 3, 26, 27, 5, 28, 2, 29, 30, 31, 11, 32, 33, 34, 35, 36, 37, 38, 39, 40, 41, 42, 43, 44, 45, 46, 47, 48, 49, 50, 51, 52, 53, 54, 55, 56, 57, 58, 59, 60, 61, 62, 63, 64, 65, 66, 67, 68, 69, 70, 71, 72, 73, 74] (by decide +kernel) (by decide +kernel)
set_option maxRecDepth 20000 in
theorem gX6_grows_X6_does : GoodIn wsX6_grows (wsV RX6 116 RX6 yX6_does wsX6_does) := goodIn_app (goodIn_of _ (by decide +kernel)) ggX6_grows_X6_does
theorem dX6_grows_0 : decode cX6_grows 0 = .ok (.iconst 0, 1) := by decide +kernel
theorem dX6_grows_1 : decode cX6_grows 1 = .ok (.istore_n 2, 1) := by decide +kernel
theorem dX6_grows_2 : decode cX6_grows 2 = .ok (.iload_n 2, 1) := by decide +kernel
theorem dX6_grows_3 : decode cX6_grows 3 = .ok (.bipush 42, 2) := by decide +kernel
theorem dX6_grows_5 : decode cX6_grows 5 = .ok (.if_icmp .ge 65, 3) := by decide +kernel
theorem dX6_grows_8 : decode cX6_grows 8 = .ok (.aload_n 0, 1) := by decide +kernel
theorem dX6_grows_9 : decode cX6_grows 9 = .ok (.getfield 62, 3) := by decide +kernel
theorem dX6_grows_12 : decode cX6_grows 12 = .ok (.iload_n 2, 1) := by decide +kernel
theorem dX6_grows_13 : decode cX6_grows 13 = .ok (.iload_n 2, 1) := by decide +kernel
theorem dX6_grows_14 : decode cX6_grows 14 = .ok (.iconst 2, 1) := by decide +kernel
theorem dX6_grows_15 : decode cX6_grows 15 = .ok (.if_icmp .ge 7, 3) := by decide +kernel
theorem dX6_grows_18 : decode cX6_grows 18 = .ok (.iconst 1, 1) := by decide +kernel
theorem dX6_grows_19 : decode cX6_grows 19 = .ok (.goto 4, 3) := by decide +kernel
theorem dX6_grows_22 : decode cX6_grows 22 = .ok (.iconst 0, 1) := by decide +kernel
theorem dX6_grows_23 : decode cX6_grows 23 = .ok (.bastore, 1) := by decide +kernel
theorem dX6_grows_24 : decode cX6_grows 24 = .ok (.aload_n 0, 1) := by decide +kernel
theorem dX6_grows_25 : decode cX6_grows 25 = .ok (.getfield 65, 3) := by decide +kernel
theorem dX6_grows_28 : decode cX6_grows 28 = .ok (.iload_n 2, 1) := by decide +kernel
theorem dX6_grows_29 : decode cX6_grows 29 = .ok (.iload_n 2, 1) := by decide +kernel
theorem dX6_grows_30 : decode cX6_grows 30 = .ok (.iconst 1, 1) := by decide +kernel
theorem dX6_grows_31 : decode cX6_grows 31 = .ok (.if_icmp .ne 7, 3) := by decide +kernel
theorem dX6_grows_34 : decode cX6_grows 34 = .ok (.iconst 0, 1) := by decide +kernel
theorem dX6_grows_35 : decode cX6_grows 35 = .ok (.goto 4, 3) := by decide +kernel
theorem dX6_grows_38 : decode cX6_grows 38 = .ok (.iconst (-1), 1) := by decide +kernel
theorem dX6_grows_39 : decode cX6_grows 39 = .ok (.iastore, 1) := by decide +kernel
theorem dX6_grows_40 : decode cX6_grows 40 = .ok (.aload_n 0, 1) := by decide +kernel
theorem dX6_grows_41 : decode cX6_grows 41 = .ok (.getfield 68, 3) := by decide +kernel
theorem dX6_grows_44 : decode cX6_grows 44 = .ok (.iload_n 2, 1) := by decide +kernel
theorem dX6_grows_45 : decode cX6_grows 45 = .ok (.iload_n 2, 1) := by decide +kernel
theorem dX6_grows_46 : decode cX6_grows 46 = .ok (.iconst 1, 1) := by decide +kernel
theorem dX6_grows_47 : decode cX6_grows 47 = .ok (.if_icmp .ne 8, 3) := by decide +kernel
theorem dX6_grows_50 : decode cX6_grows 50 = .ok (.bipush 99, 2) := by decide +kernel
theorem dX6_grows_52 : decode cX6_grows 52 = .ok (.goto 4, 3) := by decide +kernel
theorem dX6_grows_55 : decode cX6_grows 55 = .ok (.iconst (-1), 1) := by decide +kernel
theorem dX6_grows_56 : decode cX6_grows 56 = .ok (.iastore, 1) := by decide +kernel
theorem dX6_grows_57 : decode cX6_grows 57 = .ok (.aload_n 0, 1) := by decide +kernel
theorem dX6_grows_58 : decode cX6_grows 58 = .ok (.getfield 71, 3) := by decide +kernel
theorem dX6_grows_61 : decode cX6_grows 61 = .ok (.iload_n 2, 1) := by decide +kernel
theorem dX6_grows_62 : decode cX6_grows 62 = .ok (.iconst 0, 1) := by decide +kernel
theorem dX6_grows_63 : decode cX6_grows 63 = .ok (.iastore, 1) := by decide +kernel
theorem dX6_grows_64 : decode cX6_grows 64 = .ok (.iinc 2 1, 3) := by decide +kernel
theorem dX6_grows_67 : decode cX6_grows 67 = .ok (.goto (-65), 3) := by decide +kernel
theorem dX6_grows_70 : decode cX6_grows 70 = .ok (.iconst 0, 1) := by decide +kernel
theorem dX6_grows_71 : decode cX6_grows 71 = .ok (.istore_n 2, 1) := by decide +kernel
theorem dX6_grows_72 : decode cX6_grows 72 = .ok (.iload_n 2, 1) := by decide +kernel
theorem dX6_grows_73 : decode cX6_grows 73 = .ok (.sipush 168, 3) := by decide +kernel
theorem dX6_grows_76 : decode cX6_grows 76 = .ok (.if_icmp .ge 16, 3) := by decide +kernel
theorem dX6_grows_79 : decode cX6_grows 79 = .ok (.aload_n 0, 1) := by decide +kernel
theorem dX6_grows_80 : decode cX6_grows 80 = .ok (.getfield 74, 3) := by decide +kernel
theorem dX6_grows_83 : decode cX6_grows 83 = .ok (.iload_n 2, 1) := by decide +kernel
theorem dX6_grows_84 : decode cX6_grows 84 = .ok (.iconst (-1), 1) := by decide +kernel
theorem dX6_grows_85 : decode cX6_grows 85 = .ok (.iastore, 1) := by decide +kernel
theorem dX6_grows_86 : decode cX6_grows 86 = .ok (.iinc 2 1, 3) := by decide +kernel
theorem dX6_grows_89 : decode cX6_grows 89 = .ok (.goto (-17), 3) := by decide +kernel
theorem dX6_grows_92 : decode cX6_grows 92 = .ok (.iconst (-1), 1) := by decide +kernel
theorem dX6_grows_93 : decode cX6_grows 93 = .ok (.istore_n 2, 1) := by decide +kernel
theorem dX6_grows_94 : decode cX6_grows 94 = .ok (.aload_n 0, 1) := by decide +kernel
theorem dX6_grows_95 : decode cX6_grows 95 = .ok (.iload_n 1, 1) := by decide +kernel
theorem dX6_grows_96 : decode cX6_grows 96 = .ok (.iload_n 2, 1) := by decide +kernel
theorem dX6_grows_97 : decode cX6_grows 97 = .ok (.invokevirtual 112, 3) := by decide +kernel
theorem dX6_grows_100 : decode cX6_grows 100 = .ok (.istore_n 3, 1) := by decide +kernel
theorem dX6_grows_101 : decode cX6_grows 101 = .ok (.iload_n 3, 1) := by decide +kernel
theorem dX6_grows_102 : decode cX6_grows 102 = .ok (.ifCond .lt 34, 3) := by decide +kernel
theorem dX6_grows_105 : decode cX6_grows 105 = .ok (.aload_n 0, 1) := by decide +kernel
theorem dX6_grows_106 : decode cX6_grows 106 = .ok (.iload_n 3, 1) := by decide +kernel
theorem dX6_grows_107 : decode cX6_grows 107 = .ok (.invokevirtual 116, 3) := by decide +kernel
theorem dX6_grows_110 : decode cX6_grows 110 = .ok (.iconst 2, 1) := by decide +kernel
theorem dX6_grows_111 : decode cX6_grows 111 = .ok (.aload_n 0, 1) := by decide +kernel
theorem dX6_grows_112 : decode cX6_grows 112 = .ok (.getfield 34, 3) := by decide +kernel
theorem dX6_grows_115 : decode cX6_grows 115 = .ok (.iload_n 3, 1) := by decide +kernel
theorem dX6_grows_116 : decode cX6_grows 116 = .ok (.iaload, 1) := by decide +kernel
theorem dX6_grows_117 : decode cX6_grows 117 = .ok (.imul, 1) := by decide +kernel
theorem dX6_grows_118 : decode cX6_grows 118 = .ok (.aload_n 0, 1) := by decide +kernel
theorem dX6_grows_119 : decode cX6_grows 119 = .ok (.getfield 37, 3) := by decide +kernel
theorem dX6_grows_122 : decode cX6_grows 122 = .ok (.iload_n 3, 1) := by decide +kernel
theorem dX6_grows_123 : decode cX6_grows 123 = .ok (.iaload, 1) := by decide +kernel
theorem dX6_grows_124 : decode cX6_grows 124 = .ok (.iadd, 1) := by decide +kernel
theorem dX6_grows_125 : decode cX6_grows 125 = .ok (.istore_n 2, 1) := by decide +kernel
theorem dX6_grows_126 : decode cX6_grows 126 = .ok (.aload_n 0, 1) := by decide +kernel
theorem dX6_grows_127 : decode cX6_grows 127 = .ok (.iload_n 1, 1) := by decide +kernel
theorem dX6_grows_128 : decode cX6_grows 128 = .ok (.iload_n 2, 1) := by decide +kernel
theorem dX6_grows_129 : decode cX6_grows 129 = .ok (.invokevirtual 112, 3) := by decide +kernel
theorem dX6_grows_132 : decode cX6_grows 132 = .ok (.istore_n 3, 1) := by decide +kernel
theorem dX6_grows_133 : decode cX6_grows 133 = .ok (.goto (-32), 3) := by decide +kernel
theorem dX6_grows_136 : decode cX6_grows 136 = .ok (.return_, 1) := by decide +kernel
set_option maxRecDepth 20000 in
theorem ggX6_isHere_X6_isMaster : GoodIn wsX6_isHere wsX6_isMaster := goodIn_r _ [5, 6, 7, 4, 8] (by decide +kernel) (by decide +kernel)
set_option maxRecDepth 20000 in
theorem gX6_isHere_X6_isMaster : GoodIn wsX6_isHere (va_wsS RX6 120 yX6_isMaster wsX6_isMaster) := goodIn_app (goodIn_of _ (by decide +kernel)) ggX6_isHere_X6_isMaster
set_option maxRecDepth 20000 in
theorem ggX6_isHere_X6_grows : GoodIn wsX6_isHere wsX6_grows := goodIn_r _ [12, 1, 13, 14, 15, 16, 17, 18, 19, 20, 21, 4, 22, 23, 24, 25, 26, 27, 28, 29, 30, 31, 32, 33, 34, 35, 36, 37, 38, 39, 40, 41, 42, 43, 44, 45, 46, 47, 48, 49, 50, 51, 52, 53, 54, 55, 56, 57, 58, 59, 60, 61, 62, 63, 64, 65, 66, 67, 68, 69, 70, 71, 72, 73, 74, 75, 76, 77, 78, 79, 80, 81, 82, 83, 84] (by decide +kernel) (by decide +kernel)
set_option maxRecDepth 20000 in
theorem gX6_isHere_X6_grows : GoodIn wsX6_isHere (wsV RX6 124 RX6 yX6_grows wsX6_grows) := goodIn_app (goodIn_of _ (by decide +kernel)) ggX6_isHere_X6_grows
set_option maxRecDepth 20000 in
theorem ggX6_isHere_X6_isIn : GoodIn wsX6_isHere wsX6_isIn := goodIn_r _ [8] (by decide +kernel) (by decide +kernel)
set_option maxRecDepth 20000 in
theorem gX6_isHere_X6_isIn : GoodIn wsX6_isHere (va_wsS RX6 84 yX6_isIn wsX6_isIn) := goodIn_app (goodIn_of _ (by decide +kernel)) ggX6_isHere_X6_isIn
theorem dX6_isHere_0 : decode cX6_isHere 0 = .ok (.iload_n 1, 1) := by decide +kernel
theorem dX6_isHere_1 : decode cX6_isHere 1 = .ok (.invokestatic 120, 3) := by decide +kernel
theorem dX6_isHere_4 : decode cX6_isHere 4 = .ok (.ifCond .ne 5, 3) := by decide +kernel
theorem dX6_isHere_7 : decode cX6_isHere 7 = .ok (.iconst 0, 1) := by decide +kernel
theorem dX6_isHere_8 : decode cX6_isHere 8 = .ok (.ireturn, 1) := by decide +kernel
theorem dX6_isHere_9 : decode cX6_isHere 9 = .ok (.aload_n 0, 1) := by decide +kernel
theorem dX6_isHere_10 : decode cX6_isHere 10 = .ok (.iload_n 1, 1) := by decide +kernel
theorem dX6_isHere_11 : decode cX6_isHere 11 = .ok (.invokevirtual 124, 3) := by decide +kernel
theorem dX6_isHere_14 : decode cX6_isHere 14 = .ok (.iload_n 2, 1) := by decide +kernel
theorem dX6_isHere_15 : decode cX6_isHere 15 = .ok (.iconst 0, 1) := by decide +kernel
theorem dX6_isHere_16 : decode cX6_isHere 16 = .ok (.bipush 41, 2) := by decide +kernel
theorem dX6_isHere_18 : decode cX6_isHere 18 = .ok (.invokestatic 84, 3) := by decide +kernel
theorem dX6_isHere_21 : decode cX6_isHere 21 = .ok (.ifCond .eq 16, 3) := by decide +kernel
theorem dX6_isHere_24 : decode cX6_isHere 24 = .ok (.aload_n 0, 1) := by decide +kernel
theorem dX6_isHere_25 : decode cX6_isHere 25 = .ok (.getfield 62, 3) := by decide +kernel
theorem dX6_isHere_28 : decode cX6_isHere 28 = .ok (.iload_n 2, 1) := by decide +kernel
theorem dX6_isHere_29 : decode cX6_isHere 29 = .ok (.baload, 1) := by decide +kernel
theorem dX6_isHere_30 : decode cX6_isHere 30 = .ok (.ifCond .eq 7, 3) := by decide +kernel
theorem dX6_isHere_33 : decode cX6_isHere 33 = .ok (.iconst 1, 1) := by decide +kernel
theorem dX6_isHere_34 : decode cX6_isHere 34 = .ok (.goto 4, 3) := by decide +kernel
theorem dX6_isHere_37 : decode cX6_isHere 37 = .ok (.iconst 0, 1) := by decide +kernel
theorem dX6_isHere_38 : decode cX6_isHere 38 = .ok (.ireturn, 1) := by decide +kernel
set_option maxRecDepth 20000 in
theorem ggX6_made_X6_knows : GoodIn wsX6_made wsX6_knows := goodIn_r _ [11, 6, 12, 13, 14, 15, 16, 17, 18, 19, 20, 21, 22, 23, 24, 25, 26, 27, 28, 29, 30, 31, 32, 33, 34, 35, 36, 37] (by decide +kernel) (by decide +kernel)
set_option maxRecDepth 20000 in
theorem gX6_made_X6_knows : GoodIn wsX6_made (wsV RX6 109 RX6 yX6_knows wsX6_knows) := goodIn_app (goodIn_of _ (by decide +kernel)) ggX6_made_X6_knows
theorem dX6_made_0 : decode cX6_made 0 = .ok (.iconst 0, 1) := by decide +kernel
theorem dX6_made_1 : decode cX6_made 1 = .ok (.istore 4, 2) := by decide +kernel
theorem dX6_made_3 : decode cX6_made 3 = .ok (.iconst 0, 1) := by decide +kernel
theorem dX6_made_4 : decode cX6_made 4 = .ok (.istore 5, 2) := by decide +kernel
theorem dX6_made_6 : decode cX6_made 6 = .ok (.iload 5, 2) := by decide +kernel
theorem dX6_made_8 : decode cX6_made 8 = .ok (.aload_n 0, 1) := by decide +kernel
theorem dX6_made_9 : decode cX6_made 9 = .ok (.getfield 88, 3) := by decide +kernel
theorem dX6_made_12 : decode cX6_made 12 = .ok (.if_icmp .ge 45, 3) := by decide +kernel
theorem dX6_made_15 : decode cX6_made 15 = .ok (.aload_n 0, 1) := by decide +kernel
theorem dX6_made_16 : decode cX6_made 16 = .ok (.iload 5, 2) := by decide +kernel
theorem dX6_made_18 : decode cX6_made 18 = .ok (.iload_n 1, 1) := by decide +kernel
theorem dX6_made_19 : decode cX6_made 19 = .ok (.invokevirtual 109, 3) := by decide +kernel
theorem dX6_made_22 : decode cX6_made 22 = .ok (.ifCond .eq 25, 3) := by decide +kernel
theorem dX6_made_25 : decode cX6_made 25 = .ok (.aload_n 0, 1) := by decide +kernel
theorem dX6_made_26 : decode cX6_made 26 = .ok (.getfield 34, 3) := by decide +kernel
theorem dX6_made_29 : decode cX6_made 29 = .ok (.iload 5, 2) := by decide +kernel
theorem dX6_made_31 : decode cX6_made 31 = .ok (.iaload, 1) := by decide +kernel
theorem dX6_made_32 : decode cX6_made 32 = .ok (.iload 4, 2) := by decide +kernel
theorem dX6_made_34 : decode cX6_made 34 = .ok (.if_icmp .le 13, 3) := by decide +kernel
theorem dX6_made_37 : decode cX6_made 37 = .ok (.aload_n 0, 1) := by decide +kernel
theorem dX6_made_38 : decode cX6_made 38 = .ok (.getfield 34, 3) := by decide +kernel
theorem dX6_made_41 : decode cX6_made 41 = .ok (.iload 5, 2) := by decide +kernel
theorem dX6_made_43 : decode cX6_made 43 = .ok (.iaload, 1) := by decide +kernel
theorem dX6_made_44 : decode cX6_made 44 = .ok (.goto 5, 3) := by decide +kernel
theorem dX6_made_47 : decode cX6_made 47 = .ok (.iload 4, 2) := by decide +kernel
theorem dX6_made_49 : decode cX6_made 49 = .ok (.istore 4, 2) := by decide +kernel
theorem dX6_made_51 : decode cX6_made 51 = .ok (.iinc 5 1, 3) := by decide +kernel
theorem dX6_made_54 : decode cX6_made 54 = .ok (.goto (-48), 3) := by decide +kernel
theorem dX6_made_57 : decode cX6_made 57 = .ok (.aload_n 0, 1) := by decide +kernel
theorem dX6_made_58 : decode cX6_made 58 = .ok (.getfield 16, 3) := by decide +kernel
theorem dX6_made_61 : decode cX6_made 61 = .ok (.aload_n 0, 1) := by decide +kernel
theorem dX6_made_62 : decode cX6_made 62 = .ok (.getfield 88, 3) := by decide +kernel
theorem dX6_made_65 : decode cX6_made 65 = .ok (.iload_n 2, 1) := by decide +kernel
theorem dX6_made_66 : decode cX6_made 66 = .ok (.iastore, 1) := by decide +kernel
theorem dX6_made_67 : decode cX6_made 67 = .ok (.aload_n 0, 1) := by decide +kernel
theorem dX6_made_68 : decode cX6_made 68 = .ok (.getfield 19, 3) := by decide +kernel
theorem dX6_made_71 : decode cX6_made 71 = .ok (.aload_n 0, 1) := by decide +kernel
theorem dX6_made_72 : decode cX6_made 72 = .ok (.getfield 88, 3) := by decide +kernel
theorem dX6_made_75 : decode cX6_made 75 = .ok (.iload_n 3, 1) := by decide +kernel
theorem dX6_made_76 : decode cX6_made 76 = .ok (.iastore, 1) := by decide +kernel
theorem dX6_made_77 : decode cX6_made 77 = .ok (.aload_n 0, 1) := by decide +kernel
theorem dX6_made_78 : decode cX6_made 78 = .ok (.getfield 34, 3) := by decide +kernel
theorem dX6_made_81 : decode cX6_made 81 = .ok (.aload_n 0, 1) := by decide +kernel
theorem dX6_made_82 : decode cX6_made 82 = .ok (.getfield 88, 3) := by decide +kernel
theorem dX6_made_85 : decode cX6_made 85 = .ok (.iload 4, 2) := by decide +kernel
theorem dX6_made_87 : decode cX6_made 87 = .ok (.iconst 1, 1) := by decide +kernel
theorem dX6_made_88 : decode cX6_made 88 = .ok (.iadd, 1) := by decide +kernel
theorem dX6_made_89 : decode cX6_made 89 = .ok (.iastore, 1) := by decide +kernel
theorem dX6_made_90 : decode cX6_made 90 = .ok (.aload_n 0, 1) := by decide +kernel
theorem dX6_made_91 : decode cX6_made 91 = .ok (.getfield 37, 3) := by decide +kernel
theorem dX6_made_94 : decode cX6_made 94 = .ok (.aload_n 0, 1) := by decide +kernel
theorem dX6_made_95 : decode cX6_made 95 = .ok (.getfield 88, 3) := by decide +kernel
theorem dX6_made_98 : decode cX6_made 98 = .ok (.iload_n 1, 1) := by decide +kernel
theorem dX6_made_99 : decode cX6_made 99 = .ok (.iastore, 1) := by decide +kernel
theorem dX6_made_100 : decode cX6_made 100 = .ok (.aload_n 0, 1) := by decide +kernel
theorem dX6_made_101 : decode cX6_made 101 = .ok (.getfield 40, 3) := by decide +kernel
theorem dX6_made_104 : decode cX6_made 104 = .ok (.aload_n 0, 1) := by decide +kernel
theorem dX6_made_105 : decode cX6_made 105 = .ok (.getfield 88, 3) := by decide +kernel
theorem dX6_made_108 : decode cX6_made 108 = .ok (.iconst 1, 1) := by decide +kernel
theorem dX6_made_109 : decode cX6_made 109 = .ok (.iload_n 1, 1) := by decide +kernel
theorem dX6_made_110 : decode cX6_made 110 = .ok (.ishl, 1) := by decide +kernel
theorem dX6_made_111 : decode cX6_made 111 = .ok (.iastore, 1) := by decide +kernel
theorem dX6_made_112 : decode cX6_made 112 = .ok (.aload_n 0, 1) := by decide +kernel
theorem dX6_made_113 : decode cX6_made 113 = .ok (.dup, 1) := by decide +kernel
theorem dX6_made_114 : decode cX6_made 114 = .ok (.getfield 88, 3) := by decide +kernel
theorem dX6_made_117 : decode cX6_made 117 = .ok (.iconst 1, 1) := by decide +kernel
theorem dX6_made_118 : decode cX6_made 118 = .ok (.iadd, 1) := by decide +kernel
theorem dX6_made_119 : decode cX6_made 119 = .ok (.putfield 88, 3) := by decide +kernel
theorem dX6_made_122 : decode cX6_made 122 = .ok (.aload_n 0, 1) := by decide +kernel
theorem dX6_made_123 : decode cX6_made 123 = .ok (.getfield 88, 3) := by decide +kernel
theorem dX6_made_126 : decode cX6_made 126 = .ok (.iconst 1, 1) := by decide +kernel
theorem dX6_made_127 : decode cX6_made 127 = .ok (.isub, 1) := by decide +kernel
theorem dX6_made_128 : decode cX6_made 128 = .ok (.ireturn, 1) := by decide +kernel
set_option maxRecDepth 20000 in
theorem ggX6_add_X6_isHere : GoodIn wsX6_add wsX6_isHere := goodIn_r _ [10, 11, 12, 13, 9, 14, 15, 16, 17, 18, 19, 20, 21, 22, 23, 24, 25, 26, 27, 28, 29, 30, 31, 1, 32, 33, 34, 35, 36, 37, 38, 39, 40, 41, 42, 5, 4, 3, 43, 44, 45, 46, 47, 48, 49, 50, 51, 52, 53, 54, 55, 56, 57, 58, 59, 60, 61, 62, 63, 68, 69, 70, 71, 72, 73, 74, 75, 76, 77, 78, 79, 80, 81, 82, 83, 84, 85, 86, 87, 88, 89, 90, 91, 92, 93] (by decide +kernel) (by decide +kernel)
set_option maxRecDepth 20000 in
theorem gX6_add_X6_isHere : GoodIn wsX6_add (wsV RX6 127 RX6 yX6_isHere wsX6_isHere) := goodIn_app (goodIn_of _ (by decide +kernel)) ggX6_add_X6_isHere
set_option maxRecDepth 20000 in
theorem ggX6_add_X6_isIn : GoodIn wsX6_add wsX6_isIn := goodIn_r _ [17] (by decide +kernel) (by decide +kernel)
set_option maxRecDepth 20000 in
theorem gX6_add_X6_isIn : GoodIn wsX6_add (va_wsS RX6 84 yX6_isIn wsX6_isIn) := goodIn_app (goodIn_of _ (by decide +kernel)) ggX6_add_X6_isIn
set_option maxRecDepth 20000 in
theorem ggX6_add_X6_finds : GoodIn wsX6_add wsX6_finds := goodIn_r _ [51, 11, 22, 23, 52, 53, 9, 54, 68, 69, 70, 71, 72, 73, 74, 75, 76, 77, 78, 79, 80, 81, 82, 83, 84, 85, 86, 87, 88, 89, 90, 91, 92, 93] (by decide +kernel) (by decide +kernel)
set_option maxRecDepth 20000 in
theorem gX6_add_X6_finds : GoodIn wsX6_add (wsV RX6 95 RX6 yX6_finds wsX6_finds) := goodIn_app (goodIn_of _ (by decide +kernel)) ggX6_add_X6_finds
set_option maxRecDepth 20000 in
theorem ggX6_add_X6_made : GoodIn wsX6_add wsX6_made := goodIn_r _ [67, 1, 26, 42, 41, 27, 36, 32, 33, 34, 9, 35, 68, 69, 70, 71, 72, 73, 74, 75, 76, 77, 78, 79, 80, 81, 82, 83, 84, 85, 86, 87, 88, 89, 90, 91, 92, 93] (by decide +kernel) (by decide +kernel)
set_option maxRecDepth 20000 in
theorem gX6_add_X6_made : GoodIn wsX6_add (wsV RX6 130 RX6 yX6_made wsX6_made) := goodIn_app (goodIn_of _ (by decide +kernel)) ggX6_add_X6_made
theorem dX6_add_0 : decode cX6_add 0 = .ok (.aload_n 0, 1) := by decide +kernel
theorem dX6_add_1 : decode cX6_add 1 = .ok (.aload_n 0, 1) := by decide +kernel
theorem dX6_add_2 : decode cX6_add 2 = .ok (.iload_n 1, 1) := by decide +kernel
theorem dX6_add_3 : decode cX6_add 3 = .ok (.iload_n 2, 1) := by decide +kernel
theorem dX6_add_4 : decode cX6_add 4 = .ok (.invokevirtual 127, 3) := by decide +kernel
theorem dX6_add_7 : decode cX6_add 7 = .ok (.ifCond .eq 13, 3) := by decide +kernel
theorem dX6_add_10 : decode cX6_add 10 = .ok (.iload 4, 2) := by decide +kernel
theorem dX6_add_12 : decode cX6_add 12 = .ok (.iconst 0, 1) := by decide +kernel
theorem dX6_add_13 : decode cX6_add 13 = .ok (.iconst 2, 1) := by decide +kernel
theorem dX6_add_14 : decode cX6_add 14 = .ok (.invokestatic 84, 3) := by decide +kernel
theorem dX6_add_17 : decode cX6_add 17 = .ok (.ifCond .ne 7, 3) := by decide +kernel
theorem dX6_add_20 : decode cX6_add 20 = .ok (.iconst 1, 1) := by decide +kernel
theorem dX6_add_21 : decode cX6_add 21 = .ok (.goto 41, 3) := by decide +kernel
theorem dX6_add_24 : decode cX6_add 24 = .ok (.iload_n 3, 1) := by decide +kernel
theorem dX6_add_25 : decode cX6_add 25 = .ok (.iconst 0, 1) := by decide +kernel
theorem dX6_add_26 : decode cX6_add 26 = .ok (.bipush 99, 2) := by decide +kernel
theorem dX6_add_28 : decode cX6_add 28 = .ok (.invokestatic 84, 3) := by decide +kernel
theorem dX6_add_31 : decode cX6_add 31 = .ok (.ifCond .ne 7, 3) := by decide +kernel
theorem dX6_add_34 : decode cX6_add 34 = .ok (.iconst 2, 1) := by decide +kernel
theorem dX6_add_35 : decode cX6_add 35 = .ok (.goto 27, 3) := by decide +kernel
theorem dX6_add_38 : decode cX6_add 38 = .ok (.aload_n 0, 1) := by decide +kernel
theorem dX6_add_39 : decode cX6_add 39 = .ok (.getfield 88, 3) := by decide +kernel
theorem dX6_add_42 : decode cX6_add 42 = .ok (.bipush 40, 2) := by decide +kernel
theorem dX6_add_44 : decode cX6_add 44 = .ok (.if_icmp .eq 13, 3) := by decide +kernel
theorem dX6_add_47 : decode cX6_add 47 = .ok (.aload_n 0, 1) := by decide +kernel
theorem dX6_add_48 : decode cX6_add 48 = .ok (.iload_n 2, 1) := by decide +kernel
theorem dX6_add_49 : decode cX6_add 49 = .ok (.iload_n 3, 1) := by decide +kernel
theorem dX6_add_50 : decode cX6_add 50 = .ok (.iconst (-1), 1) := by decide +kernel
theorem dX6_add_51 : decode cX6_add 51 = .ok (.invokevirtual 95, 3) := by decide +kernel
theorem dX6_add_54 : decode cX6_add 54 = .ok (.ifCond .lt 7, 3) := by decide +kernel
theorem dX6_add_57 : decode cX6_add 57 = .ok (.iconst 3, 1) := by decide +kernel
theorem dX6_add_58 : decode cX6_add 58 = .ok (.goto 4, 3) := by decide +kernel
theorem dX6_add_61 : decode cX6_add 61 = .ok (.iconst 0, 1) := by decide +kernel
theorem dX6_add_62 : decode cX6_add 62 = .ok (.putfield 80, 3) := by decide +kernel
theorem dX6_add_65 : decode cX6_add 65 = .ok (.aload_n 0, 1) := by decide +kernel
theorem dX6_add_66 : decode cX6_add 66 = .ok (.getfield 80, 3) := by decide +kernel
theorem dX6_add_69 : decode cX6_add 69 = .ok (.ifCond .le 5, 3) := by decide +kernel
theorem dX6_add_72 : decode cX6_add 72 = .ok (.iconst 0, 1) := by decide +kernel
theorem dX6_add_73 : decode cX6_add 73 = .ok (.ireturn, 1) := by decide +kernel
theorem dX6_add_74 : decode cX6_add 74 = .ok (.aload_n 0, 1) := by decide +kernel
theorem dX6_add_75 : decode cX6_add 75 = .ok (.iload_n 1, 1) := by decide +kernel
theorem dX6_add_76 : decode cX6_add 76 = .ok (.iconst 0, 1) := by decide +kernel
theorem dX6_add_77 : decode cX6_add 77 = .ok (.aload_n 0, 1) := by decide +kernel
theorem dX6_add_78 : decode cX6_add 78 = .ok (.getfield 88, 3) := by decide +kernel
theorem dX6_add_81 : decode cX6_add 81 = .ok (.iconst 2, 1) := by decide +kernel
theorem dX6_add_82 : decode cX6_add 82 = .ok (.iadd, 1) := by decide +kernel
theorem dX6_add_83 : decode cX6_add 83 = .ok (.invokevirtual 130, 3) := by decide +kernel
theorem dX6_add_86 : decode cX6_add 86 = .ok (.istore 5, 2) := by decide +kernel
theorem dX6_add_88 : decode cX6_add 88 = .ok (.aload_n 0, 1) := by decide +kernel
theorem dX6_add_89 : decode cX6_add 89 = .ok (.getfield 22, 3) := by decide +kernel
theorem dX6_add_92 : decode cX6_add 92 = .ok (.iload 5, 2) := by decide +kernel
theorem dX6_add_94 : decode cX6_add 94 = .ok (.iload_n 2, 1) := by decide +kernel
theorem dX6_add_95 : decode cX6_add 95 = .ok (.iastore, 1) := by decide +kernel
theorem dX6_add_96 : decode cX6_add 96 = .ok (.aload_n 0, 1) := by decide +kernel
theorem dX6_add_97 : decode cX6_add 97 = .ok (.getfield 25, 3) := by decide +kernel
theorem dX6_add_100 : decode cX6_add 100 = .ok (.iload 5, 2) := by decide +kernel
theorem dX6_add_102 : decode cX6_add 102 = .ok (.iload_n 3, 1) := by decide +kernel
theorem dX6_add_103 : decode cX6_add 103 = .ok (.iastore, 1) := by decide +kernel
theorem dX6_add_104 : decode cX6_add 104 = .ok (.aload_n 0, 1) := by decide +kernel
theorem dX6_add_105 : decode cX6_add 105 = .ok (.getfield 28, 3) := by decide +kernel
theorem dX6_add_108 : decode cX6_add 108 = .ok (.iload 5, 2) := by decide +kernel
theorem dX6_add_110 : decode cX6_add 110 = .ok (.iload 4, 2) := by decide +kernel
theorem dX6_add_112 : decode cX6_add 112 = .ok (.iastore, 1) := by decide +kernel
theorem dX6_add_113 : decode cX6_add 113 = .ok (.iload 5, 2) := by decide +kernel
theorem dX6_add_115 : decode cX6_add 115 = .ok (.iconst 2, 1) := by decide +kernel
theorem dX6_add_116 : decode cX6_add 116 = .ok (.iadd, 1) := by decide +kernel
theorem dX6_add_117 : decode cX6_add 117 = .ok (.ireturn, 1) := by decide +kernel
set_option maxRecDepth 20000 in
theorem ggX6_set_X6_isHere : GoodIn wsX6_set wsX6_isHere := goodIn_r _ [10, 11, 12, 13, 9, 14, 15, 16, 17, 18, 19, 20, 21, 22, 23, 24, 5, 25, 26, 27, 28, 29, 30, 1, 31, 32, 33, 34, 35, 36, 37, 38, 39, 40, 41, 3, 42, 43, 4, 44, 45, 46, 47, 48, 49, 50, 51, 52, 53, 54, 55, 56, 57, 58, 59, 60, 61, 62, 63, 68, 69, 70, 71, 72, 73, 74, 75, 76, 77, 78, 79, 80, 81, 82, 83, 84, 85, 86, 87, 88, 89, 90, 91, 92, 93] (by decide +kernel) (by decide +kernel)
set_option maxRecDepth 20000 in
theorem gX6_set_X6_isHere : GoodIn wsX6_set (wsV RX6 127 RX6 yX6_isHere wsX6_isHere) := goodIn_app (goodIn_of _ (by decide +kernel)) ggX6_set_X6_isHere
set_option maxRecDepth 20000 in
theorem ggX6_set_X6_isIn : GoodIn wsX6_set wsX6_isIn := goodIn_r _ [17] (by decide +kernel) (by decide +kernel)
set_option maxRecDepth 20000 in
theorem gX6_set_X6_isIn : GoodIn wsX6_set (va_wsS RX6 84 yX6_isIn wsX6_isIn) := goodIn_app (goodIn_of _ (by decide +kernel)) ggX6_set_X6_isIn
set_option maxRecDepth 20000 in
theorem ggX6_set_X6_allowed : GoodIn wsX6_set wsX6_allowed := goodIn_r _ [58, 59, 24, 68, 69, 70, 71, 72, 73, 74, 75, 76, 77, 78, 79, 80, 81, 82, 83, 84, 85, 86, 87, 88, 89, 90, 91, 92, 93] (by decide +kernel) (by decide +kernel)
set_option maxRecDepth 20000 in
theorem gX6_set_X6_allowed : GoodIn wsX6_set (wsV RX6 103 RX6 yX6_allowed wsX6_allowed) := goodIn_app (goodIn_of _ (by decide +kernel)) ggX6_set_X6_allowed
set_option maxRecDepth 20000 in
theorem ggX6_set_X6_made : GoodIn wsX6_set wsX6_made := goodIn_r _ [67, 1, 25, 41, 40, 26, 35, 31, 32, 33, 9, 34, 68, 69, 70, 71, 72, 73, 74, 75, 76, 77, 78, 79, 80, 81, 82, 83, 84, 85, 86, 87, 88, 89, 90, 91, 92, 93] (by decide +kernel) (by decide +kernel)
set_option maxRecDepth 20000 in
theorem gX6_set_X6_made : GoodIn wsX6_set (wsV RX6 130 RX6 yX6_made wsX6_made) := goodIn_app (goodIn_of _ (by decide +kernel)) ggX6_set_X6_made
theorem dX6_set_0 : decode cX6_set 0 = .ok (.aload_n 0, 1) := by decide +kernel
theorem dX6_set_1 : decode cX6_set 1 = .ok (.aload_n 0, 1) := by decide +kernel
theorem dX6_set_2 : decode cX6_set 2 = .ok (.iload_n 1, 1) := by decide +kernel
theorem dX6_set_3 : decode cX6_set 3 = .ok (.iload_n 2, 1) := by decide +kernel
theorem dX6_set_4 : decode cX6_set 4 = .ok (.invokevirtual 127, 3) := by decide +kernel
theorem dX6_set_7 : decode cX6_set 7 = .ok (.ifCond .eq 12, 3) := by decide +kernel
theorem dX6_set_10 : decode cX6_set 10 = .ok (.iload_n 3, 1) := by decide +kernel
theorem dX6_set_11 : decode cX6_set 11 = .ok (.iconst 0, 1) := by decide +kernel
theorem dX6_set_12 : decode cX6_set 12 = .ok (.iconst 3, 1) := by decide +kernel
theorem dX6_set_13 : decode cX6_set 13 = .ok (.invokestatic 84, 3) := by decide +kernel
theorem dX6_set_16 : decode cX6_set 16 = .ok (.ifCond .ne 7, 3) := by decide +kernel
theorem dX6_set_19 : decode cX6_set 19 = .ok (.iconst 1, 1) := by decide +kernel
theorem dX6_set_20 : decode cX6_set 20 = .ok (.goto 41, 3) := by decide +kernel
theorem dX6_set_23 : decode cX6_set 23 = .ok (.iload 4, 2) := by decide +kernel
theorem dX6_set_25 : decode cX6_set 25 = .ok (.iconst (-1), 1) := by decide +kernel
theorem dX6_set_26 : decode cX6_set 26 = .ok (.bipush 9, 2) := by decide +kernel
theorem dX6_set_28 : decode cX6_set 28 = .ok (.invokestatic 84, 3) := by decide +kernel
theorem dX6_set_31 : decode cX6_set 31 = .ok (.ifCond .ne 7, 3) := by decide +kernel
theorem dX6_set_34 : decode cX6_set 34 = .ok (.iconst 2, 1) := by decide +kernel
theorem dX6_set_35 : decode cX6_set 35 = .ok (.goto 26, 3) := by decide +kernel
theorem dX6_set_38 : decode cX6_set 38 = .ok (.aload_n 0, 1) := by decide +kernel
theorem dX6_set_39 : decode cX6_set 39 = .ok (.getfield 88, 3) := by decide +kernel
theorem dX6_set_42 : decode cX6_set 42 = .ok (.bipush 40, 2) := by decide +kernel
theorem dX6_set_44 : decode cX6_set 44 = .ok (.if_icmp .eq 12, 3) := by decide +kernel
theorem dX6_set_47 : decode cX6_set 47 = .ok (.aload_n 0, 1) := by decide +kernel
theorem dX6_set_48 : decode cX6_set 48 = .ok (.iload_n 2, 1) := by decide +kernel
theorem dX6_set_49 : decode cX6_set 49 = .ok (.iload_n 3, 1) := by decide +kernel
theorem dX6_set_50 : decode cX6_set 50 = .ok (.invokevirtual 103, 3) := by decide +kernel
theorem dX6_set_53 : decode cX6_set 53 = .ok (.ifCond .ne 7, 3) := by decide +kernel
theorem dX6_set_56 : decode cX6_set 56 = .ok (.iconst 3, 1) := by decide +kernel
theorem dX6_set_57 : decode cX6_set 57 = .ok (.goto 4, 3) := by decide +kernel
theorem dX6_set_60 : decode cX6_set 60 = .ok (.iconst 0, 1) := by decide +kernel
theorem dX6_set_61 : decode cX6_set 61 = .ok (.putfield 80, 3) := by decide +kernel
theorem dX6_set_64 : decode cX6_set 64 = .ok (.aload_n 0, 1) := by decide +kernel
theorem dX6_set_65 : decode cX6_set 65 = .ok (.getfield 80, 3) := by decide +kernel
theorem dX6_set_68 : decode cX6_set 68 = .ok (.ifCond .le 5, 3) := by decide +kernel
theorem dX6_set_71 : decode cX6_set 71 = .ok (.iconst 0, 1) := by decide +kernel
theorem dX6_set_72 : decode cX6_set 72 = .ok (.ireturn, 1) := by decide +kernel
theorem dX6_set_73 : decode cX6_set 73 = .ok (.aload_n 0, 1) := by decide +kernel
theorem dX6_set_74 : decode cX6_set 74 = .ok (.iload_n 1, 1) := by decide +kernel
theorem dX6_set_75 : decode cX6_set 75 = .ok (.iconst 1, 1) := by decide +kernel
theorem dX6_set_76 : decode cX6_set 76 = .ok (.iload_n 2, 1) := by decide +kernel
theorem dX6_set_77 : decode cX6_set 77 = .ok (.invokevirtual 130, 3) := by decide +kernel
theorem dX6_set_80 : decode cX6_set 80 = .ok (.istore 5, 2) := by decide +kernel
theorem dX6_set_82 : decode cX6_set 82 = .ok (.aload_n 0, 1) := by decide +kernel
theorem dX6_set_83 : decode cX6_set 83 = .ok (.getfield 28, 3) := by decide +kernel
theorem dX6_set_86 : decode cX6_set 86 = .ok (.iload 5, 2) := by decide +kernel
theorem dX6_set_88 : decode cX6_set 88 = .ok (.iload_n 3, 1) := by decide +kernel
theorem dX6_set_89 : decode cX6_set 89 = .ok (.iastore, 1) := by decide +kernel
theorem dX6_set_90 : decode cX6_set 90 = .ok (.aload_n 0, 1) := by decide +kernel
theorem dX6_set_91 : decode cX6_set 91 = .ok (.getfield 31, 3) := by decide +kernel
theorem dX6_set_94 : decode cX6_set 94 = .ok (.iload 5, 2) := by decide +kernel
theorem dX6_set_96 : decode cX6_set 96 = .ok (.iload 4, 2) := by decide +kernel
theorem dX6_set_98 : decode cX6_set 98 = .ok (.iastore, 1) := by decide +kernel
theorem dX6_set_99 : decode cX6_set 99 = .ok (.aload_n 0, 1) := by decide +kernel
theorem dX6_set_100 : decode cX6_set 100 = .ok (.getfield 74, 3) := by decide +kernel
theorem dX6_set_103 : decode cX6_set 103 = .ok (.iconst 4, 1) := by decide +kernel
theorem dX6_set_104 : decode cX6_set 104 = .ok (.iload_n 2, 1) := by decide +kernel
theorem dX6_set_105 : decode cX6_set 105 = .ok (.imul, 1) := by decide +kernel
theorem dX6_set_106 : decode cX6_set 106 = .ok (.iload_n 3, 1) := by decide +kernel
theorem dX6_set_107 : decode cX6_set 107 = .ok (.iadd, 1) := by decide +kernel
theorem dX6_set_108 : decode cX6_set 108 = .ok (.iaload, 1) := by decide +kernel
theorem dX6_set_109 : decode cX6_set 109 = .ok (.ireturn, 1) := by decide +kernel
set_option maxRecDepth 20000 in
theorem ggX6_move_X6_isHere : GoodIn wsX6_move wsX6_isHere := goodIn_r _ [10, 11, 12, 13, 9, 14, 15, 16, 17, 18, 19, 20, 21, 5, 22, 23, 24, 25, 26, 27, 28, 29, 30, 1, 31, 32, 33, 34, 35, 36, 37, 38, 39, 40, 41, 42, 4, 3, 43, 44, 45, 46, 47, 48, 49, 50, 51, 52, 53, 54, 55, 56, 57, 58, 59, 60, 61, 62, 63, 68, 69, 70, 71, 72, 73, 74, 75, 76, 77, 78, 79, 80, 81, 82, 83, 84, 85, 86, 87, 88, 89, 90, 91, 92, 93] (by decide +kernel) (by decide +kernel)
set_option maxRecDepth 20000 in
theorem gX6_move_X6_isHere : GoodIn wsX6_move (wsV RX6 127 RX6 yX6_isHere wsX6_isHere) := goodIn_app (goodIn_of _ (by decide +kernel)) ggX6_move_X6_isHere
set_option maxRecDepth 20000 in
theorem ggX6_move_X6_isIn : GoodIn wsX6_move wsX6_isIn := goodIn_r _ [17] (by decide +kernel) (by decide +kernel)
set_option maxRecDepth 20000 in
theorem gX6_move_X6_isIn : GoodIn wsX6_move (va_wsS RX6 84 yX6_isIn wsX6_isIn) := goodIn_app (goodIn_of _ (by decide +kernel)) ggX6_move_X6_isIn
set_option maxRecDepth 20000 in
theorem ggX6_move_X6_isWithin : GoodIn wsX6_move wsX6_isWithin := goodIn_r _ [63, 5, 68, 69, 70, 71, 72, 73, 74, 75, 76, 77, 78, 79, 80, 81, 82, 83, 84, 85, 86, 87, 88, 89, 90, 91, 92, 93] (by decide +kernel) (by decide +kernel)
set_option maxRecDepth 20000 in
theorem gX6_move_X6_isWithin : GoodIn wsX6_move (wsV RX6 106 RX6 yX6_isWithin wsX6_isWithin) := goodIn_app (goodIn_of _ (by decide +kernel)) ggX6_move_X6_isWithin
set_option maxRecDepth 20000 in
theorem ggX6_move_X6_finds : GoodIn wsX6_move wsX6_finds := goodIn_r _ [51, 11, 5, 22, 52, 53, 9, 54, 68, 69, 70, 71, 72, 73, 74, 75, 76, 77, 78, 79, 80, 81, 82, 83, 84, 85, 86, 87, 88, 89, 90, 91, 92, 93] (by decide +kernel) (by decide +kernel)
set_option maxRecDepth 20000 in
theorem gX6_move_X6_finds : GoodIn wsX6_move (wsV RX6 95 RX6 yX6_finds wsX6_finds) := goodIn_app (goodIn_of _ (by decide +kernel)) ggX6_move_X6_finds
set_option maxRecDepth 20000 in
theorem ggX6_move_X6_made : GoodIn wsX6_move wsX6_made := goodIn_r _ [67, 1, 25, 41, 40, 26, 35, 31, 32, 33, 9, 34, 68, 69, 70, 71, 72, 73, 74, 75, 76, 77, 78, 79, 80, 81, 82, 83, 84, 85, 86, 87, 88, 89, 90, 91, 92, 93] (by decide +kernel) (by decide +kernel)
set_option maxRecDepth 20000 in
theorem gX6_move_X6_made : GoodIn wsX6_move (wsV RX6 130 RX6 yX6_made wsX6_made) := goodIn_app (goodIn_of _ (by decide +kernel)) ggX6_move_X6_made
theorem dX6_move_0 : decode cX6_move 0 = .ok (.aload_n 0, 1) := by decide +kernel
theorem dX6_move_1 : decode cX6_move 1 = .ok (.iload_n 1, 1) := by decide +kernel
theorem dX6_move_2 : decode cX6_move 2 = .ok (.iload_n 3, 1) := by decide +kernel
theorem dX6_move_3 : decode cX6_move 3 = .ok (.invokevirtual 127, 3) := by decide +kernel
theorem dX6_move_6 : decode cX6_move 6 = .ok (.ifCond .eq 16, 3) := by decide +kernel
theorem dX6_move_9 : decode cX6_move 9 = .ok (.aload_n 0, 1) := by decide +kernel
theorem dX6_move_10 : decode cX6_move 10 = .ok (.iload_n 1, 1) := by decide +kernel
theorem dX6_move_11 : decode cX6_move 11 = .ok (.iload_n 2, 1) := by decide +kernel
theorem dX6_move_12 : decode cX6_move 12 = .ok (.invokevirtual 127, 3) := by decide +kernel
theorem dX6_move_15 : decode cX6_move 15 = .ok (.ifCond .eq 7, 3) := by decide +kernel
theorem dX6_move_18 : decode cX6_move 18 = .ok (.iconst 1, 1) := by decide +kernel
theorem dX6_move_19 : decode cX6_move 19 = .ok (.goto 4, 3) := by decide +kernel
theorem dX6_move_22 : decode cX6_move 22 = .ok (.iconst 0, 1) := by decide +kernel
theorem dX6_move_23 : decode cX6_move 23 = .ok (.istore 5, 2) := by decide +kernel
theorem dX6_move_25 : decode cX6_move 25 = .ok (.aload_n 0, 1) := by decide +kernel
theorem dX6_move_26 : decode cX6_move 26 = .ok (.iload 5, 2) := by decide +kernel
theorem dX6_move_28 : decode cX6_move 28 = .ok (.ifCond .ne 7, 3) := by decide +kernel
theorem dX6_move_31 : decode cX6_move 31 = .ok (.iconst 1, 1) := by decide +kernel
theorem dX6_move_32 : decode cX6_move 32 = .ok (.goto 57, 3) := by decide +kernel
theorem dX6_move_35 : decode cX6_move 35 = .ok (.iload 4, 2) := by decide +kernel
theorem dX6_move_37 : decode cX6_move 37 = .ok (.iconst 0, 1) := by decide +kernel
theorem dX6_move_38 : decode cX6_move 38 = .ok (.bipush 99, 2) := by decide +kernel
theorem dX6_move_40 : decode cX6_move 40 = .ok (.invokestatic 84, 3) := by decide +kernel
theorem dX6_move_43 : decode cX6_move 43 = .ok (.ifCond .ne 7, 3) := by decide +kernel
theorem dX6_move_46 : decode cX6_move 46 = .ok (.iconst 2, 1) := by decide +kernel
theorem dX6_move_47 : decode cX6_move 47 = .ok (.goto 42, 3) := by decide +kernel
theorem dX6_move_50 : decode cX6_move 50 = .ok (.aload_n 0, 1) := by decide +kernel
theorem dX6_move_51 : decode cX6_move 51 = .ok (.getfield 88, 3) := by decide +kernel
theorem dX6_move_54 : decode cX6_move 54 = .ok (.bipush 40, 2) := by decide +kernel
theorem dX6_move_56 : decode cX6_move 56 = .ok (.if_icmp .eq 28, 3) := by decide +kernel
theorem dX6_move_59 : decode cX6_move 59 = .ok (.iload_n 2, 1) := by decide +kernel
theorem dX6_move_60 : decode cX6_move 60 = .ok (.iconst 2, 1) := by decide +kernel
theorem dX6_move_61 : decode cX6_move 61 = .ok (.if_icmp .lt 23, 3) := by decide +kernel
theorem dX6_move_64 : decode cX6_move 64 = .ok (.aload_n 0, 1) := by decide +kernel
theorem dX6_move_65 : decode cX6_move 65 = .ok (.iload_n 3, 1) := by decide +kernel
theorem dX6_move_66 : decode cX6_move 66 = .ok (.iload_n 2, 1) := by decide +kernel
theorem dX6_move_67 : decode cX6_move 67 = .ok (.invokevirtual 106, 3) := by decide +kernel
theorem dX6_move_70 : decode cX6_move 70 = .ok (.ifCond .ne 14, 3) := by decide +kernel
theorem dX6_move_73 : decode cX6_move 73 = .ok (.aload_n 0, 1) := by decide +kernel
theorem dX6_move_74 : decode cX6_move 74 = .ok (.iload_n 3, 1) := by decide +kernel
theorem dX6_move_75 : decode cX6_move 75 = .ok (.iload 4, 2) := by decide +kernel
theorem dX6_move_77 : decode cX6_move 77 = .ok (.iload_n 2, 1) := by decide +kernel
theorem dX6_move_78 : decode cX6_move 78 = .ok (.invokevirtual 95, 3) := by decide +kernel
theorem dX6_move_81 : decode cX6_move 81 = .ok (.ifCond .lt 7, 3) := by decide +kernel
theorem dX6_move_84 : decode cX6_move 84 = .ok (.iconst 3, 1) := by decide +kernel
theorem dX6_move_85 : decode cX6_move 85 = .ok (.goto 4, 3) := by decide +kernel
theorem dX6_move_88 : decode cX6_move 88 = .ok (.iconst 0, 1) := by decide +kernel
theorem dX6_move_89 : decode cX6_move 89 = .ok (.putfield 80, 3) := by decide +kernel
theorem dX6_move_92 : decode cX6_move 92 = .ok (.aload_n 0, 1) := by decide +kernel
theorem dX6_move_93 : decode cX6_move 93 = .ok (.getfield 80, 3) := by decide +kernel
theorem dX6_move_96 : decode cX6_move 96 = .ok (.ifCond .le 5, 3) := by decide +kernel
theorem dX6_move_99 : decode cX6_move 99 = .ok (.iconst 0, 1) := by decide +kernel
theorem dX6_move_100 : decode cX6_move 100 = .ok (.ireturn, 1) := by decide +kernel
theorem dX6_move_101 : decode cX6_move 101 = .ok (.aload_n 0, 1) := by decide +kernel
theorem dX6_move_102 : decode cX6_move 102 = .ok (.iload_n 1, 1) := by decide +kernel
theorem dX6_move_103 : decode cX6_move 103 = .ok (.iconst 2, 1) := by decide +kernel
theorem dX6_move_104 : decode cX6_move 104 = .ok (.iload_n 2, 1) := by decide +kernel
theorem dX6_move_105 : decode cX6_move 105 = .ok (.invokevirtual 130, 3) := by decide +kernel
theorem dX6_move_108 : decode cX6_move 108 = .ok (.istore 6, 2) := by decide +kernel
theorem dX6_move_110 : decode cX6_move 110 = .ok (.aload_n 0, 1) := by decide +kernel
theorem dX6_move_111 : decode cX6_move 111 = .ok (.getfield 22, 3) := by decide +kernel
theorem dX6_move_114 : decode cX6_move 114 = .ok (.iload 6, 2) := by decide +kernel
theorem dX6_move_116 : decode cX6_move 116 = .ok (.iload_n 3, 1) := by decide +kernel
theorem dX6_move_117 : decode cX6_move 117 = .ok (.iastore, 1) := by decide +kernel
theorem dX6_move_118 : decode cX6_move 118 = .ok (.aload_n 0, 1) := by decide +kernel
theorem dX6_move_119 : decode cX6_move 119 = .ok (.getfield 25, 3) := by decide +kernel
theorem dX6_move_122 : decode cX6_move 122 = .ok (.iload 6, 2) := by decide +kernel
theorem dX6_move_124 : decode cX6_move 124 = .ok (.iload 4, 2) := by decide +kernel
theorem dX6_move_126 : decode cX6_move 126 = .ok (.iastore, 1) := by decide +kernel
theorem dX6_move_127 : decode cX6_move 127 = .ok (.aload_n 0, 1) := by decide +kernel
theorem dX6_move_128 : decode cX6_move 128 = .ok (.getfield 65, 3) := by decide +kernel
theorem dX6_move_131 : decode cX6_move 131 = .ok (.iload_n 2, 1) := by decide +kernel
theorem dX6_move_132 : decode cX6_move 132 = .ok (.iaload, 1) := by decide +kernel
theorem dX6_move_133 : decode cX6_move 133 = .ok (.ireturn, 1) := by decide +kernel
theorem dX6_count_0 : decode cX6_count 0 = .ok (.iconst 0, 1) := by decide +kernel
theorem dX6_count_1 : decode cX6_count 1 = .ok (.istore_n 2, 1) := by decide +kernel
theorem dX6_count_2 : decode cX6_count 2 = .ok (.iconst 0, 1) := by decide +kernel
theorem dX6_count_3 : decode cX6_count 3 = .ok (.istore_n 3, 1) := by decide +kernel
theorem dX6_count_4 : decode cX6_count 4 = .ok (.iload_n 3, 1) := by decide +kernel
theorem dX6_count_5 : decode cX6_count 5 = .ok (.bipush 42, 2) := by decide +kernel
theorem dX6_count_7 : decode cX6_count 7 = .ok (.if_icmp .ge 40, 3) := by decide +kernel
theorem dX6_count_10 : decode cX6_count 10 = .ok (.iload_n 2, 1) := by decide +kernel
theorem dX6_count_11 : decode cX6_count 11 = .ok (.aload_n 0, 1) := by decide +kernel
theorem dX6_count_12 : decode cX6_count 12 = .ok (.getfield 62, 3) := by decide +kernel
theorem dX6_count_15 : decode cX6_count 15 = .ok (.iload_n 3, 1) := by decide +kernel
theorem dX6_count_16 : decode cX6_count 16 = .ok (.baload, 1) := by decide +kernel
theorem dX6_count_17 : decode cX6_count 17 = .ok (.ifCond .eq 21, 3) := by decide +kernel
theorem dX6_count_20 : decode cX6_count 20 = .ok (.iload_n 1, 1) := by decide +kernel
theorem dX6_count_21 : decode cX6_count 21 = .ok (.ifCond .lt 13, 3) := by decide +kernel
theorem dX6_count_24 : decode cX6_count 24 = .ok (.aload_n 0, 1) := by decide +kernel
theorem dX6_count_25 : decode cX6_count 25 = .ok (.getfield 65, 3) := by decide +kernel
theorem dX6_count_28 : decode cX6_count 28 = .ok (.iload_n 3, 1) := by decide +kernel
theorem dX6_count_29 : decode cX6_count 29 = .ok (.iaload, 1) := by decide +kernel
theorem dX6_count_30 : decode cX6_count 30 = .ok (.iload_n 1, 1) := by decide +kernel
theorem dX6_count_31 : decode cX6_count 31 = .ok (.if_icmp .ne 7, 3) := by decide +kernel
theorem dX6_count_34 : decode cX6_count 34 = .ok (.iconst 1, 1) := by decide +kernel
theorem dX6_count_35 : decode cX6_count 35 = .ok (.goto 4, 3) := by decide +kernel
theorem dX6_count_38 : decode cX6_count 38 = .ok (.iconst 0, 1) := by decide +kernel
theorem dX6_count_39 : decode cX6_count 39 = .ok (.iadd, 1) := by decide +kernel
theorem dX6_count_40 : decode cX6_count 40 = .ok (.istore_n 2, 1) := by decide +kernel
theorem dX6_count_41 : decode cX6_count 41 = .ok (.iinc 3 1, 3) := by decide +kernel
theorem dX6_count_44 : decode cX6_count 44 = .ok (.goto (-40), 3) := by decide +kernel
theorem dX6_count_47 : decode cX6_count 47 = .ok (.iload_n 2, 1) := by decide +kernel
theorem dX6_count_48 : decode cX6_count 48 = .ok (.ireturn, 1) := by decide +kernel
set_option maxRecDepth 20000 in
theorem ggX6_delete_X6_isHere : GoodIn wsX6_delete wsX6_isHere := goodIn_r _ [7, 8, 9, 10, 6, 11, 12, 13, 14, 15, 16, 17, 18, 19, 20, 21, 22, 23, 24, 25, 26, 27, 28, 1, 29, 30, 31, 32, 33, 34, 35, 36, 37, 38, 39, 40, 41, 42, 43, 44, 45, 46, 47, 48, 49, 50, 51, 52, 53, 54, 55, 56, 57, 58, 59, 60, 61, 62, 63, 72, 73, 74, 75, 76, 77, 78, 79, 80, 81, 82, 83, 84, 85, 86, 87, 88, 89, 90, 91, 92, 93, 94, 95, 96, 97] (by decide +kernel) (by decide +kernel)
set_option maxRecDepth 20000 in
theorem gX6_delete_X6_isHere : GoodIn wsX6_delete (wsV RX6 127 RX6 yX6_isHere wsX6_isHere) := goodIn_app (goodIn_of _ (by decide +kernel)) ggX6_delete_X6_isHere
set_option maxRecDepth 20000 in
theorem ggX6_delete_X6_count : GoodIn wsX6_delete wsX6_count := goodIn_r _ [67, 8, 19, 72, 73, 74, 75, 76, 77, 78, 79, 80, 81, 82, 83, 84, 85, 86, 87, 88, 89, 90, 91, 92, 93, 94, 95, 96, 97] (by decide +kernel) (by decide +kernel)
set_option maxRecDepth 20000 in
theorem gX6_delete_X6_count : GoodIn wsX6_delete (wsV RX6 133 RX6 yX6_count wsX6_count) := goodIn_app (goodIn_of _ (by decide +kernel)) ggX6_delete_X6_count
set_option maxRecDepth 20000 in
theorem ggX6_delete_X6_made : GoodIn wsX6_delete wsX6_made := goodIn_r _ [71, 1, 23, 39, 38, 24, 33, 29, 30, 31, 6, 32, 72, 73, 74, 75, 76, 77, 78, 79, 80, 81, 82, 83, 84, 85, 86, 87, 88, 89, 90, 91, 92, 93, 94, 95, 96, 97] (by decide +kernel) (by decide +kernel)
set_option maxRecDepth 20000 in
theorem gX6_delete_X6_made : GoodIn wsX6_delete (wsV RX6 130 RX6 yX6_made wsX6_made) := goodIn_app (goodIn_of _ (by decide +kernel)) ggX6_delete_X6_made
theorem dX6_delete_0 : decode cX6_delete 0 = .ok (.aload_n 0, 1) := by decide +kernel
theorem dX6_delete_1 : decode cX6_delete 1 = .ok (.aload_n 0, 1) := by decide +kernel
theorem dX6_delete_2 : decode cX6_delete 2 = .ok (.iload_n 1, 1) := by decide +kernel
theorem dX6_delete_3 : decode cX6_delete 3 = .ok (.iload_n 2, 1) := by decide +kernel
theorem dX6_delete_4 : decode cX6_delete 4 = .ok (.invokevirtual 127, 3) := by decide +kernel
theorem dX6_delete_7 : decode cX6_delete 7 = .ok (.ifCond .ne 7, 3) := by decide +kernel
theorem dX6_delete_10 : decode cX6_delete 10 = .ok (.iconst 1, 1) := by decide +kernel
theorem dX6_delete_11 : decode cX6_delete 11 = .ok (.goto 30, 3) := by decide +kernel
theorem dX6_delete_14 : decode cX6_delete 14 = .ok (.aload_n 0, 1) := by decide +kernel
theorem dX6_delete_15 : decode cX6_delete 15 = .ok (.getfield 88, 3) := by decide +kernel
theorem dX6_delete_18 : decode cX6_delete 18 = .ok (.bipush 40, 2) := by decide +kernel
theorem dX6_delete_20 : decode cX6_delete 20 = .ok (.if_icmp .eq 16, 3) := by decide +kernel
theorem dX6_delete_23 : decode cX6_delete 23 = .ok (.iload_n 2, 1) := by decide +kernel
theorem dX6_delete_24 : decode cX6_delete 24 = .ok (.iconst 2, 1) := by decide +kernel
theorem dX6_delete_25 : decode cX6_delete 25 = .ok (.if_icmp .lt 11, 3) := by decide +kernel
theorem dX6_delete_28 : decode cX6_delete 28 = .ok (.aload_n 0, 1) := by decide +kernel
theorem dX6_delete_29 : decode cX6_delete 29 = .ok (.iload_n 2, 1) := by decide +kernel
theorem dX6_delete_30 : decode cX6_delete 30 = .ok (.invokevirtual 133, 3) := by decide +kernel
theorem dX6_delete_33 : decode cX6_delete 33 = .ok (.ifCond .le 7, 3) := by decide +kernel
theorem dX6_delete_36 : decode cX6_delete 36 = .ok (.iconst 2, 1) := by decide +kernel
theorem dX6_delete_37 : decode cX6_delete 37 = .ok (.goto 4, 3) := by decide +kernel
theorem dX6_delete_40 : decode cX6_delete 40 = .ok (.iconst 0, 1) := by decide +kernel
theorem dX6_delete_41 : decode cX6_delete 41 = .ok (.putfield 80, 3) := by decide +kernel
theorem dX6_delete_44 : decode cX6_delete 44 = .ok (.aload_n 0, 1) := by decide +kernel
theorem dX6_delete_45 : decode cX6_delete 45 = .ok (.getfield 80, 3) := by decide +kernel
theorem dX6_delete_48 : decode cX6_delete 48 = .ok (.ifCond .le 5, 3) := by decide +kernel
theorem dX6_delete_51 : decode cX6_delete 51 = .ok (.iconst 0, 1) := by decide +kernel
theorem dX6_delete_52 : decode cX6_delete 52 = .ok (.ireturn, 1) := by decide +kernel
theorem dX6_delete_53 : decode cX6_delete 53 = .ok (.aload_n 0, 1) := by decide +kernel
theorem dX6_delete_54 : decode cX6_delete 54 = .ok (.iload_n 1, 1) := by decide +kernel
theorem dX6_delete_55 : decode cX6_delete 55 = .ok (.iconst 3, 1) := by decide +kernel
theorem dX6_delete_56 : decode cX6_delete 56 = .ok (.iload_n 2, 1) := by decide +kernel
theorem dX6_delete_57 : decode cX6_delete 57 = .ok (.invokevirtual 130, 3) := by decide +kernel
theorem dX6_delete_60 : decode cX6_delete 60 = .ok (.pop, 1) := by decide +kernel
theorem dX6_delete_61 : decode cX6_delete 61 = .ok (.aload_n 0, 1) := by decide +kernel
theorem dX6_delete_62 : decode cX6_delete 62 = .ok (.iconst (-1), 1) := by decide +kernel
theorem dX6_delete_63 : decode cX6_delete 63 = .ok (.invokevirtual 133, 3) := by decide +kernel
theorem dX6_delete_66 : decode cX6_delete 66 = .ok (.iconst 1, 1) := by decide +kernel
theorem dX6_delete_67 : decode cX6_delete 67 = .ok (.isub, 1) := by decide +kernel
theorem dX6_delete_68 : decode cX6_delete 68 = .ok (.ireturn, 1) := by decide +kernel
set_option maxRecDepth 20000 in
theorem ggX6_isChange_X6_isIn : GoodIn wsX6_isChange wsX6_isIn := goodIn_r _ [5] (by decide +kernel) (by decide +kernel)
set_option maxRecDepth 20000 in
theorem gX6_isChange_X6_isIn : GoodIn wsX6_isChange (va_wsS RX6 84 yX6_isIn wsX6_isIn) := goodIn_app (goodIn_of _ (by decide +kernel)) ggX6_isChange_X6_isIn
theorem dX6_isChange_0 : decode cX6_isChange 0 = .ok (.iload_n 1, 1) := by decide +kernel
theorem dX6_isChange_1 : decode cX6_isChange 1 = .ok (.iconst 0, 1) := by decide +kernel
theorem dX6_isChange_2 : decode cX6_isChange 2 = .ok (.aload_n 0, 1) := by decide +kernel
theorem dX6_isChange_3 : decode cX6_isChange 3 = .ok (.getfield 88, 3) := by decide +kernel
theorem dX6_isChange_6 : decode cX6_isChange 6 = .ok (.iconst 1, 1) := by decide +kernel
theorem dX6_isChange_7 : decode cX6_isChange 7 = .ok (.isub, 1) := by decide +kernel
theorem dX6_isChange_8 : decode cX6_isChange 8 = .ok (.invokestatic 84, 3) := by decide +kernel
theorem dX6_isChange_11 : decode cX6_isChange 11 = .ok (.ireturn, 1) := by decide +kernel
set_option maxRecDepth 20000 in
theorem ggX6_carry_X6_isChange : GoodIn wsX6_carry wsX6_isChange := goodIn_r _ [7, 8, 9, 10, 6, 11, 19, 20, 21, 22, 23, 24, 25, 26, 27, 28, 29, 30, 31, 32, 33, 34, 35, 36, 37, 38, 39, 40, 41, 42, 43, 44] (by decide +kernel) (by decide +kernel)
set_option maxRecDepth 20000 in
theorem gX6_carry_X6_isChange : GoodIn wsX6_carry (wsV RX6 137 RX6 yX6_isChange wsX6_isChange) := goodIn_app (goodIn_of _ (by decide +kernel)) ggX6_carry_X6_isChange
set_option maxRecDepth 20000 in
theorem ggX6_carry_X6_isMaster : GoodIn wsX6_carry wsX6_isMaster := goodIn_r _ [14, 9, 10, 6, 11] (by decide +kernel) (by decide +kernel)
set_option maxRecDepth 20000 in
theorem gX6_carry_X6_isMaster : GoodIn wsX6_carry (va_wsS RX6 120 yX6_isMaster wsX6_isMaster) := goodIn_app (goodIn_of _ (by decide +kernel)) ggX6_carry_X6_isMaster
set_option maxRecDepth 20000 in
theorem ggX6_carry_X6_knows : GoodIn wsX6_carry wsX6_knows := goodIn_r _ [18, 2, 19, 20, 21, 22, 23, 24, 25, 26, 27, 28, 29, 30, 31, 32, 33, 34, 35, 36, 37, 38, 39, 40, 41, 42, 43, 44] (by decide +kernel) (by decide +kernel)
set_option maxRecDepth 20000 in
theorem gX6_carry_X6_knows : GoodIn wsX6_carry (wsV RX6 109 RX6 yX6_knows wsX6_knows) := goodIn_app (goodIn_of _ (by decide +kernel)) ggX6_carry_X6_knows
theorem dX6_carry_0 : decode cX6_carry 0 = .ok (.aload_n 0, 1) := by decide +kernel
theorem dX6_carry_1 : decode cX6_carry 1 = .ok (.aload_n 0, 1) := by decide +kernel
theorem dX6_carry_2 : decode cX6_carry 2 = .ok (.iload_n 1, 1) := by decide +kernel
theorem dX6_carry_3 : decode cX6_carry 3 = .ok (.invokevirtual 137, 3) := by decide +kernel
theorem dX6_carry_6 : decode cX6_carry 6 = .ok (.ifCond .eq 14, 3) := by decide +kernel
theorem dX6_carry_9 : decode cX6_carry 9 = .ok (.iload_n 2, 1) := by decide +kernel
theorem dX6_carry_10 : decode cX6_carry 10 = .ok (.invokestatic 120, 3) := by decide +kernel
theorem dX6_carry_13 : decode cX6_carry 13 = .ok (.ifCond .eq 7, 3) := by decide +kernel
theorem dX6_carry_16 : decode cX6_carry 16 = .ok (.iconst 0, 1) := by decide +kernel
theorem dX6_carry_17 : decode cX6_carry 17 = .ok (.goto 4, 3) := by decide +kernel
theorem dX6_carry_20 : decode cX6_carry 20 = .ok (.iconst 1, 1) := by decide +kernel
theorem dX6_carry_21 : decode cX6_carry 21 = .ok (.putfield 80, 3) := by decide +kernel
theorem dX6_carry_24 : decode cX6_carry 24 = .ok (.aload_n 0, 1) := by decide +kernel
theorem dX6_carry_25 : decode cX6_carry 25 = .ok (.getfield 80, 3) := by decide +kernel
theorem dX6_carry_28 : decode cX6_carry 28 = .ok (.ifCond .le 5, 3) := by decide +kernel
theorem dX6_carry_31 : decode cX6_carry 31 = .ok (.iconst 0, 1) := by decide +kernel
theorem dX6_carry_32 : decode cX6_carry 32 = .ok (.ireturn, 1) := by decide +kernel
theorem dX6_carry_33 : decode cX6_carry 33 = .ok (.aload_n 0, 1) := by decide +kernel
theorem dX6_carry_34 : decode cX6_carry 34 = .ok (.iload_n 1, 1) := by decide +kernel
theorem dX6_carry_35 : decode cX6_carry 35 = .ok (.iload_n 2, 1) := by decide +kernel
theorem dX6_carry_36 : decode cX6_carry 36 = .ok (.invokevirtual 109, 3) := by decide +kernel
theorem dX6_carry_39 : decode cX6_carry 39 = .ok (.ifCond .ne 7, 3) := by decide +kernel
theorem dX6_carry_42 : decode cX6_carry 42 = .ok (.iconst 1, 1) := by decide +kernel
theorem dX6_carry_43 : decode cX6_carry 43 = .ok (.goto 4, 3) := by decide +kernel
theorem dX6_carry_46 : decode cX6_carry 46 = .ok (.iconst 0, 1) := by decide +kernel
theorem dX6_carry_47 : decode cX6_carry 47 = .ok (.istore_n 3, 1) := by decide +kernel
theorem dX6_carry_48 : decode cX6_carry 48 = .ok (.aload_n 0, 1) := by decide +kernel
theorem dX6_carry_49 : decode cX6_carry 49 = .ok (.getfield 40, 3) := by decide +kernel
theorem dX6_carry_52 : decode cX6_carry 52 = .ok (.iload_n 1, 1) := by decide +kernel
theorem dX6_carry_53 : decode cX6_carry 53 = .ok (.dup2, 1) := by decide +kernel
theorem dX6_carry_54 : decode cX6_carry 54 = .ok (.iaload, 1) := by decide +kernel
theorem dX6_carry_55 : decode cX6_carry 55 = .ok (.iconst 1, 1) := by decide +kernel
theorem dX6_carry_56 : decode cX6_carry 56 = .ok (.iload_n 2, 1) := by decide +kernel
theorem dX6_carry_57 : decode cX6_carry 57 = .ok (.ishl, 1) := by decide +kernel
theorem dX6_carry_58 : decode cX6_carry 58 = .ok (.ior, 1) := by decide +kernel
theorem dX6_carry_59 : decode cX6_carry 59 = .ok (.iastore, 1) := by decide +kernel
theorem dX6_carry_60 : decode cX6_carry 60 = .ok (.iload_n 3, 1) := by decide +kernel
theorem dX6_carry_61 : decode cX6_carry 61 = .ok (.ireturn, 1) := by decide +kernel
theorem dX6_changes_0 : decode cX6_changes 0 = .ok (.aload_n 0, 1) := by decide +kernel
theorem dX6_changes_1 : decode cX6_changes 1 = .ok (.iconst 0, 1) := by decide +kernel
theorem dX6_changes_2 : decode cX6_changes 2 = .ok (.putfield 80, 3) := by decide +kernel
theorem dX6_changes_5 : decode cX6_changes 5 = .ok (.aload_n 0, 1) := by decide +kernel
theorem dX6_changes_6 : decode cX6_changes 6 = .ok (.getfield 88, 3) := by decide +kernel
theorem dX6_changes_9 : decode cX6_changes 9 = .ok (.ireturn, 1) := by decide +kernel
set_option maxRecDepth 20000 in
theorem ggX6_timeOf_X6_isChange : GoodIn wsX6_timeOf wsX6_isChange := goodIn_r _ [7, 8, 9, 10, 6, 11, 12, 13, 14, 15, 16, 17, 18, 19, 20, 21, 22, 23, 24, 25, 26, 27, 28, 29, 30, 31, 32, 33, 34, 35, 36, 37] (by decide +kernel) (by decide +kernel)
set_option maxRecDepth 20000 in
theorem gX6_timeOf_X6_isChange : GoodIn wsX6_timeOf (wsV RX6 137 RX6 yX6_isChange wsX6_isChange) := goodIn_app (goodIn_of _ (by decide +kernel)) ggX6_timeOf_X6_isChange
theorem dX6_timeOf_0 : decode cX6_timeOf 0 = .ok (.aload_n 0, 1) := by decide +kernel
theorem dX6_timeOf_1 : decode cX6_timeOf 1 = .ok (.aload_n 0, 1) := by decide +kernel
theorem dX6_timeOf_2 : decode cX6_timeOf 2 = .ok (.iload_n 1, 1) := by decide +kernel
theorem dX6_timeOf_3 : decode cX6_timeOf 3 = .ok (.invokevirtual 137, 3) := by decide +kernel
theorem dX6_timeOf_6 : decode cX6_timeOf 6 = .ok (.ifCond .eq 7, 3) := by decide +kernel
theorem dX6_timeOf_9 : decode cX6_timeOf 9 = .ok (.iconst 0, 1) := by decide +kernel
theorem dX6_timeOf_10 : decode cX6_timeOf 10 = .ok (.goto 4, 3) := by decide +kernel
theorem dX6_timeOf_13 : decode cX6_timeOf 13 = .ok (.iconst 1, 1) := by decide +kernel
theorem dX6_timeOf_14 : decode cX6_timeOf 14 = .ok (.putfield 80, 3) := by decide +kernel
theorem dX6_timeOf_17 : decode cX6_timeOf 17 = .ok (.aload_n 0, 1) := by decide +kernel
theorem dX6_timeOf_18 : decode cX6_timeOf 18 = .ok (.getfield 80, 3) := by decide +kernel
theorem dX6_timeOf_21 : decode cX6_timeOf 21 = .ok (.ifCond .le 7, 3) := by decide +kernel
theorem dX6_timeOf_24 : decode cX6_timeOf 24 = .ok (.iconst 0, 1) := by decide +kernel
theorem dX6_timeOf_25 : decode cX6_timeOf 25 = .ok (.goto 9, 3) := by decide +kernel
theorem dX6_timeOf_28 : decode cX6_timeOf 28 = .ok (.aload_n 0, 1) := by decide +kernel
theorem dX6_timeOf_29 : decode cX6_timeOf 29 = .ok (.getfield 34, 3) := by decide +kernel
theorem dX6_timeOf_32 : decode cX6_timeOf 32 = .ok (.iload_n 1, 1) := by decide +kernel
theorem dX6_timeOf_33 : decode cX6_timeOf 33 = .ok (.iaload, 1) := by decide +kernel
theorem dX6_timeOf_34 : decode cX6_timeOf 34 = .ok (.ireturn, 1) := by decide +kernel
set_option maxRecDepth 20000 in
theorem ggX6_entries_X6_isHere : GoodIn wsX6_entries wsX6_isHere := goodIn_r _ [6, 7, 8, 9, 5, 10, 11, 12, 13, 14, 15, 16, 17, 18, 19, 20, 21, 22, 23, 24, 25, 26, 27, 28, 29, 30, 31, 32, 33, 34, 35, 36, 37, 38, 39, 40, 41, 42, 43, 44, 45, 46, 47, 48, 49, 50, 51, 52, 53, 54, 55, 56, 57, 58, 59, 60, 61, 62, 63, 68, 69, 70, 71, 72, 73, 74, 75, 76, 77, 78, 79, 80, 81, 82, 83, 84, 85, 86, 87, 88, 89, 90, 91, 92, 93] (by decide +kernel) (by decide +kernel)
set_option maxRecDepth 20000 in
theorem gX6_entries_X6_isHere : GoodIn wsX6_entries (wsV RX6 127 RX6 yX6_isHere wsX6_isHere) := goodIn_app (goodIn_of _ (by decide +kernel)) ggX6_entries_X6_isHere
set_option maxRecDepth 20000 in
theorem ggX6_entries_X6_count : GoodIn wsX6_entries wsX6_count := goodIn_r _ [67, 7, 18, 68, 69, 70, 71, 72, 73, 74, 75, 76, 77, 78, 79, 80, 81, 82, 83, 84, 85, 86, 87, 88, 89, 90, 91, 92, 93] (by decide +kernel) (by decide +kernel)
set_option maxRecDepth 20000 in
theorem gX6_entries_X6_count : GoodIn wsX6_entries (wsV RX6 133 RX6 yX6_count wsX6_count) := goodIn_app (goodIn_of _ (by decide +kernel)) ggX6_entries_X6_count
theorem dX6_entries_0 : decode cX6_entries 0 = .ok (.aload_n 0, 1) := by decide +kernel
theorem dX6_entries_1 : decode cX6_entries 1 = .ok (.aload_n 0, 1) := by decide +kernel
theorem dX6_entries_2 : decode cX6_entries 2 = .ok (.iload_n 1, 1) := by decide +kernel
theorem dX6_entries_3 : decode cX6_entries 3 = .ok (.iconst 0, 1) := by decide +kernel
theorem dX6_entries_4 : decode cX6_entries 4 = .ok (.invokevirtual 127, 3) := by decide +kernel
theorem dX6_entries_7 : decode cX6_entries 7 = .ok (.ifCond .eq 7, 3) := by decide +kernel
theorem dX6_entries_10 : decode cX6_entries 10 = .ok (.iconst 0, 1) := by decide +kernel
theorem dX6_entries_11 : decode cX6_entries 11 = .ok (.goto 4, 3) := by decide +kernel
theorem dX6_entries_14 : decode cX6_entries 14 = .ok (.iconst 1, 1) := by decide +kernel
theorem dX6_entries_15 : decode cX6_entries 15 = .ok (.putfield 80, 3) := by decide +kernel
theorem dX6_entries_18 : decode cX6_entries 18 = .ok (.aload_n 0, 1) := by decide +kernel
theorem dX6_entries_19 : decode cX6_entries 19 = .ok (.getfield 80, 3) := by decide +kernel
theorem dX6_entries_22 : decode cX6_entries 22 = .ok (.ifCond .le 7, 3) := by decide +kernel
theorem dX6_entries_25 : decode cX6_entries 25 = .ok (.iconst 0, 1) := by decide +kernel
theorem dX6_entries_26 : decode cX6_entries 26 = .ok (.goto 8, 3) := by decide +kernel
theorem dX6_entries_29 : decode cX6_entries 29 = .ok (.aload_n 0, 1) := by decide +kernel
theorem dX6_entries_30 : decode cX6_entries 30 = .ok (.iconst (-1), 1) := by decide +kernel
theorem dX6_entries_31 : decode cX6_entries 31 = .ok (.invokevirtual 133, 3) := by decide +kernel
theorem dX6_entries_34 : decode cX6_entries 34 = .ok (.ireturn, 1) := by decide +kernel
set_option maxRecDepth 20000 in
theorem ggX6_isThere_X6_isMaster : GoodIn wsX6_isThere wsX6_isMaster := goodIn_r _ [5, 6, 7, 4, 8] (by decide +kernel) (by decide +kernel)
set_option maxRecDepth 20000 in
theorem gX6_isThere_X6_isMaster : GoodIn wsX6_isThere (va_wsS RX6 120 yX6_isMaster wsX6_isMaster) := goodIn_app (goodIn_of _ (by decide +kernel)) ggX6_isThere_X6_isMaster
set_option maxRecDepth 20000 in
theorem ggX6_isThere_X6_isHere : GoodIn wsX6_isThere wsX6_isHere := goodIn_r _ [12, 13, 2, 3, 4, 5, 6, 7, 8, 14, 15, 16, 17, 18, 19, 20, 21, 22, 23, 24, 25, 26, 27, 28, 29, 30, 31, 32, 33, 34, 35, 36, 37, 38, 39, 40, 41, 42, 43, 44, 45, 46, 47, 48, 49, 50, 51, 52, 53, 54, 55, 56, 57, 58, 59, 60, 61, 62, 63, 64, 65, 66, 67, 68, 69, 70, 71, 72, 73, 74, 75, 76, 77, 78, 79, 80, 81, 82, 83, 84, 85, 86, 87, 88, 89] (by decide +kernel) (by decide +kernel)
set_option maxRecDepth 20000 in
theorem gX6_isThere_X6_isHere : GoodIn wsX6_isThere (wsV RX6 127 RX6 yX6_isHere wsX6_isHere) := goodIn_app (goodIn_of _ (by decide +kernel)) ggX6_isThere_X6_isHere
theorem dX6_isThere_0 : decode cX6_isThere 0 = .ok (.aload_n 0, 1) := by decide +kernel
theorem dX6_isThere_1 : decode cX6_isThere 1 = .ok (.iload_n 1, 1) := by decide +kernel
theorem dX6_isThere_2 : decode cX6_isThere 2 = .ok (.invokestatic 120, 3) := by decide +kernel
theorem dX6_isThere_5 : decode cX6_isThere 5 = .ok (.ifCond .eq 7, 3) := by decide +kernel
theorem dX6_isThere_8 : decode cX6_isThere 8 = .ok (.iconst 0, 1) := by decide +kernel
theorem dX6_isThere_9 : decode cX6_isThere 9 = .ok (.goto 4, 3) := by decide +kernel
theorem dX6_isThere_12 : decode cX6_isThere 12 = .ok (.iconst 1, 1) := by decide +kernel
theorem dX6_isThere_13 : decode cX6_isThere 13 = .ok (.putfield 80, 3) := by decide +kernel
theorem dX6_isThere_16 : decode cX6_isThere 16 = .ok (.aload_n 0, 1) := by decide +kernel
theorem dX6_isThere_17 : decode cX6_isThere 17 = .ok (.iload_n 1, 1) := by decide +kernel
theorem dX6_isThere_18 : decode cX6_isThere 18 = .ok (.iload_n 2, 1) := by decide +kernel
theorem dX6_isThere_19 : decode cX6_isThere 19 = .ok (.invokevirtual 127, 3) := by decide +kernel
theorem dX6_isThere_22 : decode cX6_isThere 22 = .ok (.ireturn, 1) := by decide +kernel
set_option maxRecDepth 20000 in
theorem ggX6_asks_X6_isHere : GoodIn wsX6_asks wsX6_isHere := goodIn_r _ [6, 7, 8, 9, 5, 10, 11, 12, 13, 14, 15, 16, 17, 18, 19, 20, 21, 22, 23, 24, 25, 26, 27, 28, 29, 30, 31, 32, 33, 34, 35, 36, 37, 38, 39, 40, 41, 42, 43, 44, 45, 46, 47, 48, 49, 50, 51, 52, 53, 54, 55, 56, 57, 58, 59, 60, 61, 62, 63, 64, 65, 66, 67, 68, 69, 70, 71, 72, 73, 74, 75, 76, 77, 78, 79, 80, 81, 82, 83, 84, 85, 86, 87, 88, 89] (by decide +kernel) (by decide +kernel)
set_option maxRecDepth 20000 in
theorem gX6_asks_X6_isHere : GoodIn wsX6_asks (wsV RX6 127 RX6 yX6_isHere wsX6_isHere) := goodIn_app (goodIn_of _ (by decide +kernel)) ggX6_asks_X6_isHere
theorem dX6_asks_0 : decode cX6_asks 0 = .ok (.aload_n 0, 1) := by decide +kernel
theorem dX6_asks_1 : decode cX6_asks 1 = .ok (.aload_n 0, 1) := by decide +kernel
theorem dX6_asks_2 : decode cX6_asks 2 = .ok (.iload_n 1, 1) := by decide +kernel
theorem dX6_asks_3 : decode cX6_asks 3 = .ok (.iload_n 2, 1) := by decide +kernel
theorem dX6_asks_4 : decode cX6_asks 4 = .ok (.invokevirtual 127, 3) := by decide +kernel
theorem dX6_asks_7 : decode cX6_asks 7 = .ok (.ifCond .eq 7, 3) := by decide +kernel
theorem dX6_asks_10 : decode cX6_asks 10 = .ok (.iconst 0, 1) := by decide +kernel
theorem dX6_asks_11 : decode cX6_asks 11 = .ok (.goto 4, 3) := by decide +kernel
theorem dX6_asks_14 : decode cX6_asks 14 = .ok (.iconst 1, 1) := by decide +kernel
theorem dX6_asks_15 : decode cX6_asks 15 = .ok (.putfield 80, 3) := by decide +kernel
theorem dX6_asks_18 : decode cX6_asks 18 = .ok (.aload_n 0, 1) := by decide +kernel
theorem dX6_asks_19 : decode cX6_asks 19 = .ok (.getfield 80, 3) := by decide +kernel
theorem dX6_asks_22 : decode cX6_asks 22 = .ok (.ifCond .ne 7, 3) := by decide +kernel
theorem dX6_asks_25 : decode cX6_asks 25 = .ok (.iconst 1, 1) := by decide +kernel
theorem dX6_asks_26 : decode cX6_asks 26 = .ok (.goto 4, 3) := by decide +kernel
theorem dX6_asks_29 : decode cX6_asks 29 = .ok (.iconst 0, 1) := by decide +kernel
theorem dX6_asks_30 : decode cX6_asks 30 = .ok (.ireturn, 1) := by decide +kernel
set_option maxRecDepth 20000 in
theorem ggX6_parentOf_X6_asks : GoodIn wsX6_parentOf wsX6_asks := goodIn_r _ [6, 7, 8, 9, 10, 5, 11, 12, 13, 14, 15, 16, 17, 18, 19, 20, 21, 22, 1, 23, 24, 25, 26, 27, 28, 29, 30, 31, 32, 33, 34, 35, 36, 37, 38, 39, 40, 41, 42, 43, 44, 45, 46, 47, 48, 49, 50, 51, 52, 53, 54, 55, 56, 57, 58, 59, 60, 61, 62, 63, 64, 65, 66, 67, 68, 69, 70, 71, 72, 73, 74, 75, 76, 77, 78, 79, 80, 81, 82, 83, 84, 85, 86, 87, 88, 89, 90, 91, 92, 93] (by decide +kernel) (by decide +kernel)
set_option maxRecDepth 20000 in
theorem gX6_parentOf_X6_asks : GoodIn wsX6_parentOf (wsV RX6 140 RX6 yX6_asks wsX6_asks) := goodIn_app (goodIn_of _ (by decide +kernel)) ggX6_parentOf_X6_asks
theorem dX6_parentOf_0 : decode cX6_parentOf 0 = .ok (.aload_n 0, 1) := by decide +kernel
theorem dX6_parentOf_1 : decode cX6_parentOf 1 = .ok (.iload_n 1, 1) := by decide +kernel
theorem dX6_parentOf_2 : decode cX6_parentOf 2 = .ok (.iload_n 2, 1) := by decide +kernel
theorem dX6_parentOf_3 : decode cX6_parentOf 3 = .ok (.invokevirtual 140, 3) := by decide +kernel
theorem dX6_parentOf_6 : decode cX6_parentOf 6 = .ok (.ifCond .eq 12, 3) := by decide +kernel
theorem dX6_parentOf_9 : decode cX6_parentOf 9 = .ok (.aload_n 0, 1) := by decide +kernel
theorem dX6_parentOf_10 : decode cX6_parentOf 10 = .ok (.getfield 65, 3) := by decide +kernel
theorem dX6_parentOf_13 : decode cX6_parentOf 13 = .ok (.iload_n 2, 1) := by decide +kernel
theorem dX6_parentOf_14 : decode cX6_parentOf 14 = .ok (.iaload, 1) := by decide +kernel
theorem dX6_parentOf_15 : decode cX6_parentOf 15 = .ok (.goto 4, 3) := by decide +kernel
theorem dX6_parentOf_18 : decode cX6_parentOf 18 = .ok (.iconst 0, 1) := by decide +kernel
theorem dX6_parentOf_19 : decode cX6_parentOf 19 = .ok (.ireturn, 1) := by decide +kernel
set_option maxRecDepth 20000 in
theorem ggX6_labelOf_X6_asks : GoodIn wsX6_labelOf wsX6_asks := goodIn_r _ [6, 7, 8, 9, 10, 5, 11, 12, 13, 14, 15, 16, 17, 18, 19, 20, 21, 22, 23, 1, 24, 25, 26, 27, 28, 29, 30, 31, 32, 33, 34, 35, 36, 37, 38, 39, 40, 41, 42, 43, 44, 45, 46, 47, 48, 49, 50, 51, 52, 53, 54, 55, 56, 57, 58, 59, 60, 61, 62, 63, 64, 65, 66, 67, 68, 69, 70, 71, 72, 73, 74, 75, 76, 77, 78, 79, 80, 81, 82, 83, 84, 85, 86, 87, 88, 89, 90, 91, 92, 93] (by decide +kernel) (by decide +kernel)
set_option maxRecDepth 20000 in
theorem gX6_labelOf_X6_asks : GoodIn wsX6_labelOf (wsV RX6 140 RX6 yX6_asks wsX6_asks) := goodIn_app (goodIn_of _ (by decide +kernel)) ggX6_labelOf_X6_asks
theorem dX6_labelOf_0 : decode cX6_labelOf 0 = .ok (.aload_n 0, 1) := by decide +kernel
theorem dX6_labelOf_1 : decode cX6_labelOf 1 = .ok (.iload_n 1, 1) := by decide +kernel
theorem dX6_labelOf_2 : decode cX6_labelOf 2 = .ok (.iload_n 2, 1) := by decide +kernel
theorem dX6_labelOf_3 : decode cX6_labelOf 3 = .ok (.invokevirtual 140, 3) := by decide +kernel
theorem dX6_labelOf_6 : decode cX6_labelOf 6 = .ok (.ifCond .eq 12, 3) := by decide +kernel
theorem dX6_labelOf_9 : decode cX6_labelOf 9 = .ok (.aload_n 0, 1) := by decide +kernel
theorem dX6_labelOf_10 : decode cX6_labelOf 10 = .ok (.getfield 68, 3) := by decide +kernel
theorem dX6_labelOf_13 : decode cX6_labelOf 13 = .ok (.iload_n 2, 1) := by decide +kernel
theorem dX6_labelOf_14 : decode cX6_labelOf 14 = .ok (.iaload, 1) := by decide +kernel
theorem dX6_labelOf_15 : decode cX6_labelOf 15 = .ok (.goto 4, 3) := by decide +kernel
theorem dX6_labelOf_18 : decode cX6_labelOf 18 = .ok (.iconst 0, 1) := by decide +kernel
theorem dX6_labelOf_19 : decode cX6_labelOf 19 = .ok (.ireturn, 1) := by decide +kernel
set_option maxRecDepth 20000 in
theorem ggX6_value_X6_isHere : GoodIn wsX6_value wsX6_isHere := goodIn_r _ [7, 8, 9, 10, 6, 11, 12, 13, 14, 15, 16, 17, 18, 19, 20, 21, 2, 22, 23, 24, 25, 26, 27, 28, 29, 30, 31, 32, 33, 34, 35, 36, 37, 38, 39, 40, 41, 42, 43, 44, 45, 46, 47, 48, 49, 50, 51, 52, 53, 54, 55, 56, 57, 58, 59, 60, 61, 62, 63, 64, 65, 66, 67, 68, 69, 70, 71, 72, 73, 74, 75, 76, 77, 78, 79, 80, 81, 82, 83, 84, 85, 86, 87, 88, 89] (by decide +kernel) (by decide +kernel)
set_option maxRecDepth 20000 in
theorem gX6_value_X6_isHere : GoodIn wsX6_value (wsV RX6 127 RX6 yX6_isHere wsX6_isHere) := goodIn_app (goodIn_of _ (by decide +kernel)) ggX6_value_X6_isHere
set_option maxRecDepth 20000 in
theorem ggX6_value_X6_isIn : GoodIn wsX6_value wsX6_isIn := goodIn_r _ [14] (by decide +kernel) (by decide +kernel)
set_option maxRecDepth 20000 in
theorem gX6_value_X6_isIn : GoodIn wsX6_value (va_wsS RX6 84 yX6_isIn wsX6_isIn) := goodIn_app (goodIn_of _ (by decide +kernel)) ggX6_value_X6_isIn
theorem dX6_value_0 : decode cX6_value 0 = .ok (.aload_n 0, 1) := by decide +kernel
theorem dX6_value_1 : decode cX6_value 1 = .ok (.aload_n 0, 1) := by decide +kernel
theorem dX6_value_2 : decode cX6_value 2 = .ok (.iload_n 1, 1) := by decide +kernel
theorem dX6_value_3 : decode cX6_value 3 = .ok (.iload_n 2, 1) := by decide +kernel
theorem dX6_value_4 : decode cX6_value 4 = .ok (.invokevirtual 127, 3) := by decide +kernel
theorem dX6_value_7 : decode cX6_value 7 = .ok (.ifCond .eq 16, 3) := by decide +kernel
theorem dX6_value_10 : decode cX6_value 10 = .ok (.iload_n 3, 1) := by decide +kernel
theorem dX6_value_11 : decode cX6_value 11 = .ok (.iconst 0, 1) := by decide +kernel
theorem dX6_value_12 : decode cX6_value 12 = .ok (.iconst 3, 1) := by decide +kernel
theorem dX6_value_13 : decode cX6_value 13 = .ok (.invokestatic 84, 3) := by decide +kernel
theorem dX6_value_16 : decode cX6_value 16 = .ok (.ifCond .eq 7, 3) := by decide +kernel
theorem dX6_value_19 : decode cX6_value 19 = .ok (.iconst 0, 1) := by decide +kernel
theorem dX6_value_20 : decode cX6_value 20 = .ok (.goto 4, 3) := by decide +kernel
theorem dX6_value_23 : decode cX6_value 23 = .ok (.iconst 1, 1) := by decide +kernel
theorem dX6_value_24 : decode cX6_value 24 = .ok (.putfield 80, 3) := by decide +kernel
theorem dX6_value_27 : decode cX6_value 27 = .ok (.aload_n 0, 1) := by decide +kernel
theorem dX6_value_28 : decode cX6_value 28 = .ok (.getfield 80, 3) := by decide +kernel
theorem dX6_value_31 : decode cX6_value 31 = .ok (.ifCond .le 7, 3) := by decide +kernel
theorem dX6_value_34 : decode cX6_value 34 = .ok (.iconst 0, 1) := by decide +kernel
theorem dX6_value_35 : decode cX6_value 35 = .ok (.goto 13, 3) := by decide +kernel
theorem dX6_value_38 : decode cX6_value 38 = .ok (.aload_n 0, 1) := by decide +kernel
theorem dX6_value_39 : decode cX6_value 39 = .ok (.getfield 74, 3) := by decide +kernel
theorem dX6_value_42 : decode cX6_value 42 = .ok (.iconst 4, 1) := by decide +kernel
theorem dX6_value_43 : decode cX6_value 43 = .ok (.iload_n 2, 1) := by decide +kernel
theorem dX6_value_44 : decode cX6_value 44 = .ok (.imul, 1) := by decide +kernel
theorem dX6_value_45 : decode cX6_value 45 = .ok (.iload_n 3, 1) := by decide +kernel
theorem dX6_value_46 : decode cX6_value 46 = .ok (.iadd, 1) := by decide +kernel
theorem dX6_value_47 : decode cX6_value 47 = .ok (.iaload, 1) := by decide +kernel
theorem dX6_value_48 : decode cX6_value 48 = .ok (.ireturn, 1) := by decide +kernel
set_option maxRecDepth 20000 in
theorem ggX6_isWhole_X6_asks : GoodIn wsX6_isWhole wsX6_asks := goodIn_r _ [8, 9, 10, 11, 12, 7, 13, 14, 15, 16, 17, 18, 19, 20, 21, 22, 23, 24, 25, 26, 2, 3, 27, 28, 29, 30, 31, 32, 33, 34, 35, 36, 37, 38, 39, 40, 41, 42, 43, 44, 45, 46, 47, 48, 49, 50, 51, 52, 53, 54, 55, 56, 57, 58, 59, 60, 61, 62, 63, 64, 65, 66, 67, 68, 69, 70, 71, 72, 73, 74, 75, 76, 77, 78, 79, 80, 81, 82, 83, 84, 85, 86, 87, 88, 89, 90, 91, 92, 93, 94] (by decide +kernel) (by decide +kernel)
set_option maxRecDepth 20000 in
theorem gX6_isWhole_X6_asks : GoodIn wsX6_isWhole (wsV RX6 140 RX6 yX6_asks wsX6_asks) := goodIn_app (goodIn_of _ (by decide +kernel)) ggX6_isWhole_X6_asks
theorem dX6_isWhole_0 : decode cX6_isWhole 0 = .ok (.aload_n 0, 1) := by decide +kernel
theorem dX6_isWhole_1 : decode cX6_isWhole 1 = .ok (.iload_n 1, 1) := by decide +kernel
theorem dX6_isWhole_2 : decode cX6_isWhole 2 = .ok (.iload_n 2, 1) := by decide +kernel
theorem dX6_isWhole_3 : decode cX6_isWhole 3 = .ok (.invokevirtual 140, 3) := by decide +kernel
theorem dX6_isWhole_6 : decode cX6_isWhole 6 = .ok (.istore_n 3, 1) := by decide +kernel
theorem dX6_isWhole_7 : decode cX6_isWhole 7 = .ok (.iconst 0, 1) := by decide +kernel
theorem dX6_isWhole_8 : decode cX6_isWhole 8 = .ok (.istore 4, 2) := by decide +kernel
theorem dX6_isWhole_10 : decode cX6_isWhole 10 = .ok (.iload 4, 2) := by decide +kernel
theorem dX6_isWhole_12 : decode cX6_isWhole 12 = .ok (.iconst 4, 1) := by decide +kernel
theorem dX6_isWhole_13 : decode cX6_isWhole 13 = .ok (.if_icmp .ge 52, 3) := by decide +kernel
theorem dX6_isWhole_16 : decode cX6_isWhole 16 = .ok (.iload_n 3, 1) := by decide +kernel
theorem dX6_isWhole_17 : decode cX6_isWhole 17 = .ok (.ifCond .eq 40, 3) := by decide +kernel
theorem dX6_isWhole_20 : decode cX6_isWhole 20 = .ok (.aload_n 0, 1) := by decide +kernel
theorem dX6_isWhole_21 : decode cX6_isWhole 21 = .ok (.getfield 7, 3) := by decide +kernel
theorem dX6_isWhole_24 : decode cX6_isWhole 24 = .ok (.aload_n 0, 1) := by decide +kernel
theorem dX6_isWhole_25 : decode cX6_isWhole 25 = .ok (.getfield 71, 3) := by decide +kernel
theorem dX6_isWhole_28 : decode cX6_isWhole 28 = .ok (.iload_n 2, 1) := by decide +kernel
theorem dX6_isWhole_29 : decode cX6_isWhole 29 = .ok (.iaload, 1) := by decide +kernel
theorem dX6_isWhole_30 : decode cX6_isWhole 30 = .ok (.iaload, 1) := by decide +kernel
theorem dX6_isWhole_31 : decode cX6_isWhole 31 = .ok (.iload 4, 2) := by decide +kernel
theorem dX6_isWhole_33 : decode cX6_isWhole 33 = .ok (.ishr, 1) := by decide +kernel
theorem dX6_isWhole_34 : decode cX6_isWhole 34 = .ok (.iconst 1, 1) := by decide +kernel
theorem dX6_isWhole_35 : decode cX6_isWhole 35 = .ok (.iand, 1) := by decide +kernel
theorem dX6_isWhole_36 : decode cX6_isWhole 36 = .ok (.ifCond .eq 17, 3) := by decide +kernel
theorem dX6_isWhole_39 : decode cX6_isWhole 39 = .ok (.aload_n 0, 1) := by decide +kernel
theorem dX6_isWhole_40 : decode cX6_isWhole 40 = .ok (.getfield 74, 3) := by decide +kernel
theorem dX6_isWhole_43 : decode cX6_isWhole 43 = .ok (.iconst 4, 1) := by decide +kernel
theorem dX6_isWhole_44 : decode cX6_isWhole 44 = .ok (.iload_n 2, 1) := by decide +kernel
theorem dX6_isWhole_45 : decode cX6_isWhole 45 = .ok (.imul, 1) := by decide +kernel
theorem dX6_isWhole_46 : decode cX6_isWhole 46 = .ok (.iload 4, 2) := by decide +kernel
theorem dX6_isWhole_48 : decode cX6_isWhole 48 = .ok (.iadd, 1) := by decide +kernel
theorem dX6_isWhole_49 : decode cX6_isWhole 49 = .ok (.iaload, 1) := by decide +kernel
theorem dX6_isWhole_50 : decode cX6_isWhole 50 = .ok (.ifCond .lt 7, 3) := by decide +kernel
theorem dX6_isWhole_53 : decode cX6_isWhole 53 = .ok (.iconst 1, 1) := by decide +kernel
theorem dX6_isWhole_54 : decode cX6_isWhole 54 = .ok (.goto 4, 3) := by decide +kernel
theorem dX6_isWhole_57 : decode cX6_isWhole 57 = .ok (.iconst 0, 1) := by decide +kernel
theorem dX6_isWhole_58 : decode cX6_isWhole 58 = .ok (.istore_n 3, 1) := by decide +kernel
theorem dX6_isWhole_59 : decode cX6_isWhole 59 = .ok (.iinc 4 1, 3) := by decide +kernel
theorem dX6_isWhole_62 : decode cX6_isWhole 62 = .ok (.goto (-52), 3) := by decide +kernel
theorem dX6_isWhole_65 : decode cX6_isWhole 65 = .ok (.iload_n 3, 1) := by decide +kernel
theorem dX6_isWhole_66 : decode cX6_isWhole 66 = .ok (.ireturn, 1) := by decide +kernel
set_option maxRecDepth 20000 in
theorem ggX6_find_X6_isHere : GoodIn wsX6_find wsX6_isHere := goodIn_r _ [6, 7, 8, 9, 5, 10, 11, 12, 13, 14, 15, 16, 17, 18, 19, 20, 21, 22, 23, 24, 25, 26, 27, 28, 29, 30, 31, 32, 33, 34, 35, 36, 37, 38, 39, 40, 41, 42, 43, 44, 45, 46, 47, 48, 49, 50, 51, 52, 53, 54, 55, 56, 57, 58, 59, 60, 61, 62, 63, 64, 65, 66, 67, 68, 69, 70, 71, 72, 73, 74, 75, 76, 77, 78, 79, 80, 81, 82, 83, 84, 85, 86, 87, 88, 89] (by decide +kernel) (by decide +kernel)
set_option maxRecDepth 20000 in
theorem gX6_find_X6_isHere : GoodIn wsX6_find (wsV RX6 127 RX6 yX6_isHere wsX6_isHere) := goodIn_app (goodIn_of _ (by decide +kernel)) ggX6_find_X6_isHere
set_option maxRecDepth 20000 in
theorem ggX6_find_X6_isIn : GoodIn wsX6_find wsX6_isIn := goodIn_r _ [13] (by decide +kernel) (by decide +kernel)
set_option maxRecDepth 20000 in
theorem gX6_find_X6_isIn : GoodIn wsX6_find (va_wsS RX6 84 yX6_isIn wsX6_isIn) := goodIn_app (goodIn_of _ (by decide +kernel)) ggX6_find_X6_isIn
set_option maxRecDepth 20000 in
theorem ggX6_find_X6_finds : GoodIn wsX6_find wsX6_finds := goodIn_r _ [51, 7, 18, 19, 52, 53, 5, 54, 64, 65, 66, 67, 68, 69, 70, 71, 72, 73, 74, 75, 76, 77, 78, 79, 80, 81, 82, 83, 84, 85, 86, 87, 88, 89] (by decide +kernel) (by decide +kernel)
set_option maxRecDepth 20000 in
theorem gX6_find_X6_finds : GoodIn wsX6_find (wsV RX6 95 RX6 yX6_finds wsX6_finds) := goodIn_app (goodIn_of _ (by decide +kernel)) ggX6_find_X6_finds
theorem dX6_find_0 : decode cX6_find 0 = .ok (.aload_n 0, 1) := by decide +kernel
theorem dX6_find_1 : decode cX6_find 1 = .ok (.aload_n 0, 1) := by decide +kernel
theorem dX6_find_2 : decode cX6_find 2 = .ok (.iload_n 1, 1) := by decide +kernel
theorem dX6_find_3 : decode cX6_find 3 = .ok (.iload_n 2, 1) := by decide +kernel
theorem dX6_find_4 : decode cX6_find 4 = .ok (.invokevirtual 127, 3) := by decide +kernel
theorem dX6_find_7 : decode cX6_find 7 = .ok (.ifCond .ne 7, 3) := by decide +kernel
theorem dX6_find_10 : decode cX6_find 10 = .ok (.iconst 1, 1) := by decide +kernel
theorem dX6_find_11 : decode cX6_find 11 = .ok (.goto 18, 3) := by decide +kernel
theorem dX6_find_14 : decode cX6_find 14 = .ok (.iload_n 3, 1) := by decide +kernel
theorem dX6_find_15 : decode cX6_find 15 = .ok (.iconst 0, 1) := by decide +kernel
theorem dX6_find_16 : decode cX6_find 16 = .ok (.bipush 99, 2) := by decide +kernel
theorem dX6_find_18 : decode cX6_find 18 = .ok (.invokestatic 84, 3) := by decide +kernel
theorem dX6_find_21 : decode cX6_find 21 = .ok (.ifCond .eq 7, 3) := by decide +kernel
theorem dX6_find_24 : decode cX6_find 24 = .ok (.iconst 0, 1) := by decide +kernel
theorem dX6_find_25 : decode cX6_find 25 = .ok (.goto 4, 3) := by decide +kernel
theorem dX6_find_28 : decode cX6_find 28 = .ok (.iconst 2, 1) := by decide +kernel
theorem dX6_find_29 : decode cX6_find 29 = .ok (.putfield 80, 3) := by decide +kernel
theorem dX6_find_32 : decode cX6_find 32 = .ok (.aload_n 0, 1) := by decide +kernel
theorem dX6_find_33 : decode cX6_find 33 = .ok (.getfield 80, 3) := by decide +kernel
theorem dX6_find_36 : decode cX6_find 36 = .ok (.ifCond .le 7, 3) := by decide +kernel
theorem dX6_find_39 : decode cX6_find 39 = .ok (.iconst 0, 1) := by decide +kernel
theorem dX6_find_40 : decode cX6_find 40 = .ok (.goto 10, 3) := by decide +kernel
theorem dX6_find_43 : decode cX6_find 43 = .ok (.aload_n 0, 1) := by decide +kernel
theorem dX6_find_44 : decode cX6_find 44 = .ok (.iload_n 2, 1) := by decide +kernel
theorem dX6_find_45 : decode cX6_find 45 = .ok (.iload_n 3, 1) := by decide +kernel
theorem dX6_find_46 : decode cX6_find 46 = .ok (.iconst (-1), 1) := by decide +kernel
theorem dX6_find_47 : decode cX6_find 47 = .ok (.invokevirtual 95, 3) := by decide +kernel
theorem dX6_find_50 : decode cX6_find 50 = .ok (.ireturn, 1) := by decide +kernel
theorem dX6_told_0 : decode cX6_told 0 = .ok (.aload_n 0, 1) := by decide +kernel
theorem dX6_told_1 : decode cX6_told 1 = .ok (.getfield 62, 3) := by decide +kernel
theorem dX6_told_4 : decode cX6_told 4 = .ok (.iload_n 1, 1) := by decide +kernel
theorem dX6_told_5 : decode cX6_told 5 = .ok (.baload, 1) := by decide +kernel
theorem dX6_told_6 : decode cX6_told 6 = .ok (.ifCond .ne 8, 3) := by decide +kernel
theorem dX6_told_9 : decode cX6_told 9 = .ok (.bipush (-9), 2) := by decide +kernel
theorem dX6_told_11 : decode cX6_told 11 = .ok (.goto 56, 3) := by decide +kernel
theorem dX6_told_14 : decode cX6_told 14 = .ok (.iload_n 2, 1) := by decide +kernel
theorem dX6_told_15 : decode cX6_told 15 = .ok (.ifCond .ne 12, 3) := by decide +kernel
theorem dX6_told_18 : decode cX6_told 18 = .ok (.aload_n 0, 1) := by decide +kernel
theorem dX6_told_19 : decode cX6_told 19 = .ok (.getfield 65, 3) := by decide +kernel
theorem dX6_told_22 : decode cX6_told 22 = .ok (.iload_n 1, 1) := by decide +kernel
theorem dX6_told_23 : decode cX6_told 23 = .ok (.iaload, 1) := by decide +kernel
theorem dX6_told_24 : decode cX6_told 24 = .ok (.goto 43, 3) := by decide +kernel
theorem dX6_told_27 : decode cX6_told 27 = .ok (.iload_n 2, 1) := by decide +kernel
theorem dX6_told_28 : decode cX6_told 28 = .ok (.iconst 1, 1) := by decide +kernel
theorem dX6_told_29 : decode cX6_told 29 = .ok (.if_icmp .ne 12, 3) := by decide +kernel
theorem dX6_told_32 : decode cX6_told 32 = .ok (.aload_n 0, 1) := by decide +kernel
theorem dX6_told_33 : decode cX6_told 33 = .ok (.getfield 68, 3) := by decide +kernel
theorem dX6_told_36 : decode cX6_told 36 = .ok (.iload_n 1, 1) := by decide +kernel
theorem dX6_told_37 : decode cX6_told 37 = .ok (.iaload, 1) := by decide +kernel
theorem dX6_told_38 : decode cX6_told 38 = .ok (.goto 29, 3) := by decide +kernel
theorem dX6_told_41 : decode cX6_told 41 = .ok (.iload_n 2, 1) := by decide +kernel
theorem dX6_told_42 : decode cX6_told 42 = .ok (.iconst 2, 1) := by decide +kernel
theorem dX6_told_43 : decode cX6_told 43 = .ok (.if_icmp .ne 12, 3) := by decide +kernel
theorem dX6_told_46 : decode cX6_told 46 = .ok (.aload_n 0, 1) := by decide +kernel
theorem dX6_told_47 : decode cX6_told 47 = .ok (.getfield 71, 3) := by decide +kernel
theorem dX6_told_50 : decode cX6_told 50 = .ok (.iload_n 1, 1) := by decide +kernel
theorem dX6_told_51 : decode cX6_told 51 = .ok (.iaload, 1) := by decide +kernel
theorem dX6_told_52 : decode cX6_told 52 = .ok (.goto 15, 3) := by decide +kernel
theorem dX6_told_55 : decode cX6_told 55 = .ok (.aload_n 0, 1) := by decide +kernel
theorem dX6_told_56 : decode cX6_told 56 = .ok (.getfield 74, 3) := by decide +kernel
theorem dX6_told_59 : decode cX6_told 59 = .ok (.iconst 4, 1) := by decide +kernel
theorem dX6_told_60 : decode cX6_told 60 = .ok (.iload_n 1, 1) := by decide +kernel
theorem dX6_told_61 : decode cX6_told 61 = .ok (.imul, 1) := by decide +kernel
theorem dX6_told_62 : decode cX6_told 62 = .ok (.iload_n 2, 1) := by decide +kernel
theorem dX6_told_63 : decode cX6_told 63 = .ok (.iadd, 1) := by decide +kernel
theorem dX6_told_64 : decode cX6_told 64 = .ok (.iconst 3, 1) := by decide +kernel
theorem dX6_told_65 : decode cX6_told 65 = .ok (.isub, 1) := by decide +kernel
theorem dX6_told_66 : decode cX6_told 66 = .ok (.iaload, 1) := by decide +kernel
theorem dX6_told_67 : decode cX6_told 67 = .ok (.ireturn, 1) := by decide +kernel
set_option maxRecDepth 20000 in
theorem ggX6_areAlike_X6_grows : GoodIn wsX6_areAlike wsX6_grows := goodIn_r _ [7, 8, 9, 10, 11, 12, 13, 14, 15, 16, 17, 6, 18, 19, 20, 21, 22, 23, 24, 25, 26, 27, 28, 29, 30, 31, 32, 33, 34, 35, 36, 37, 38, 39, 40, 41, 42, 43, 44, 45, 46, 47, 48, 49, 50, 51, 52, 53, 54, 59, 60, 61, 62, 63, 64, 65, 66, 67, 68, 69, 70, 71, 72, 73, 74, 75, 76, 77, 78, 79, 80, 81, 82, 83, 84] (by decide +kernel) (by decide +kernel)
set_option maxRecDepth 20000 in
theorem gX6_areAlike_X6_grows : GoodIn wsX6_areAlike (wsV RX6 124 RX6 yX6_grows wsX6_grows) := goodIn_app (goodIn_of _ (by decide +kernel)) ggX6_areAlike_X6_grows
set_option maxRecDepth 20000 in
theorem ggX6_areAlike_X6_told : GoodIn wsX6_areAlike wsX6_told := goodIn_r _ [58, 8, 9, 10, 11, 12, 59, 60, 61, 62, 63, 64, 65, 66, 67, 68, 69, 70, 71, 72, 73, 74, 75, 76, 77, 78, 79, 80, 81, 82, 83, 84] (by decide +kernel) (by decide +kernel)
set_option maxRecDepth 20000 in
theorem gX6_areAlike_X6_told : GoodIn wsX6_areAlike (wsV RX6 143 RX6 yX6_told wsX6_told) := goodIn_app (goodIn_of _ (by decide +kernel)) ggX6_areAlike_X6_told
theorem dX6_areAlike_0 : decode cX6_areAlike 0 = .ok (.aload_n 0, 1) := by decide +kernel
theorem dX6_areAlike_1 : decode cX6_areAlike 1 = .ok (.iconst 0, 1) := by decide +kernel
theorem dX6_areAlike_2 : decode cX6_areAlike 2 = .ok (.putfield 80, 3) := by decide +kernel
theorem dX6_areAlike_5 : decode cX6_areAlike 5 = .ok (.aload_n 0, 1) := by decide +kernel
theorem dX6_areAlike_6 : decode cX6_areAlike 6 = .ok (.iconst 0, 1) := by decide +kernel
theorem dX6_areAlike_7 : decode cX6_areAlike 7 = .ok (.invokevirtual 124, 3) := by decide +kernel
theorem dX6_areAlike_10 : decode cX6_areAlike 10 = .ok (.iconst 0, 1) := by decide +kernel
theorem dX6_areAlike_11 : decode cX6_areAlike 11 = .ok (.istore_n 1, 1) := by decide +kernel
theorem dX6_areAlike_12 : decode cX6_areAlike 12 = .ok (.iload_n 1, 1) := by decide +kernel
theorem dX6_areAlike_13 : decode cX6_areAlike 13 = .ok (.sipush 294, 3) := by decide +kernel
theorem dX6_areAlike_16 : decode cX6_areAlike 16 = .ok (.if_icmp .ge 27, 3) := by decide +kernel
theorem dX6_areAlike_19 : decode cX6_areAlike 19 = .ok (.aload_n 0, 1) := by decide +kernel
theorem dX6_areAlike_20 : decode cX6_areAlike 20 = .ok (.getfield 77, 3) := by decide +kernel
theorem dX6_areAlike_23 : decode cX6_areAlike 23 = .ok (.iload_n 1, 1) := by decide +kernel
theorem dX6_areAlike_24 : decode cX6_areAlike 24 = .ok (.aload_n 0, 1) := by decide +kernel
theorem dX6_areAlike_25 : decode cX6_areAlike 25 = .ok (.iload_n 1, 1) := by decide +kernel
theorem dX6_areAlike_26 : decode cX6_areAlike 26 = .ok (.bipush 7, 2) := by decide +kernel
theorem dX6_areAlike_28 : decode cX6_areAlike 28 = .ok (.idiv, 1) := by decide +kernel
theorem dX6_areAlike_29 : decode cX6_areAlike 29 = .ok (.iload_n 1, 1) := by decide +kernel
theorem dX6_areAlike_30 : decode cX6_areAlike 30 = .ok (.bipush 7, 2) := by decide +kernel
theorem dX6_areAlike_32 : decode cX6_areAlike 32 = .ok (.irem, 1) := by decide +kernel
theorem dX6_areAlike_33 : decode cX6_areAlike 33 = .ok (.invokevirtual 143, 3) := by decide +kernel
theorem dX6_areAlike_36 : decode cX6_areAlike 36 = .ok (.iastore, 1) := by decide +kernel
theorem dX6_areAlike_37 : decode cX6_areAlike 37 = .ok (.iinc 1 1, 3) := by decide +kernel
theorem dX6_areAlike_40 : decode cX6_areAlike 40 = .ok (.goto (-28), 3) := by decide +kernel
theorem dX6_areAlike_43 : decode cX6_areAlike 43 = .ok (.aload_n 0, 1) := by decide +kernel
theorem dX6_areAlike_44 : decode cX6_areAlike 44 = .ok (.iconst 1, 1) := by decide +kernel
theorem dX6_areAlike_45 : decode cX6_areAlike 45 = .ok (.invokevirtual 124, 3) := by decide +kernel
theorem dX6_areAlike_48 : decode cX6_areAlike 48 = .ok (.iconst 1, 1) := by decide +kernel
theorem dX6_areAlike_49 : decode cX6_areAlike 49 = .ok (.istore_n 1, 1) := by decide +kernel
theorem dX6_areAlike_50 : decode cX6_areAlike 50 = .ok (.iconst 0, 1) := by decide +kernel
theorem dX6_areAlike_51 : decode cX6_areAlike 51 = .ok (.istore_n 2, 1) := by decide +kernel
theorem dX6_areAlike_52 : decode cX6_areAlike 52 = .ok (.iload_n 2, 1) := by decide +kernel
theorem dX6_areAlike_53 : decode cX6_areAlike 53 = .ok (.sipush 294, 3) := by decide +kernel
theorem dX6_areAlike_56 : decode cX6_areAlike 56 = .ok (.if_icmp .ge 38, 3) := by decide +kernel
theorem dX6_areAlike_59 : decode cX6_areAlike 59 = .ok (.iload_n 1, 1) := by decide +kernel
theorem dX6_areAlike_60 : decode cX6_areAlike 60 = .ok (.aload_n 0, 1) := by decide +kernel
theorem dX6_areAlike_61 : decode cX6_areAlike 61 = .ok (.getfield 77, 3) := by decide +kernel
theorem dX6_areAlike_64 : decode cX6_areAlike 64 = .ok (.iload_n 2, 1) := by decide +kernel
theorem dX6_areAlike_65 : decode cX6_areAlike 65 = .ok (.iaload, 1) := by decide +kernel
theorem dX6_areAlike_66 : decode cX6_areAlike 66 = .ok (.aload_n 0, 1) := by decide +kernel
theorem dX6_areAlike_67 : decode cX6_areAlike 67 = .ok (.iload_n 2, 1) := by decide +kernel
theorem dX6_areAlike_68 : decode cX6_areAlike 68 = .ok (.bipush 7, 2) := by decide +kernel
theorem dX6_areAlike_70 : decode cX6_areAlike 70 = .ok (.idiv, 1) := by decide +kernel
theorem dX6_areAlike_71 : decode cX6_areAlike 71 = .ok (.iload_n 2, 1) := by decide +kernel
theorem dX6_areAlike_72 : decode cX6_areAlike 72 = .ok (.bipush 7, 2) := by decide +kernel
theorem dX6_areAlike_74 : decode cX6_areAlike 74 = .ok (.irem, 1) := by decide +kernel
theorem dX6_areAlike_75 : decode cX6_areAlike 75 = .ok (.invokevirtual 143, 3) := by decide +kernel
theorem dX6_areAlike_78 : decode cX6_areAlike 78 = .ok (.if_icmp .ne 7, 3) := by decide +kernel
theorem dX6_areAlike_81 : decode cX6_areAlike 81 = .ok (.iconst 1, 1) := by decide +kernel
theorem dX6_areAlike_82 : decode cX6_areAlike 82 = .ok (.goto 4, 3) := by decide +kernel
theorem dX6_areAlike_85 : decode cX6_areAlike 85 = .ok (.iconst 0, 1) := by decide +kernel
theorem dX6_areAlike_86 : decode cX6_areAlike 86 = .ok (.iand, 1) := by decide +kernel
theorem dX6_areAlike_87 : decode cX6_areAlike 87 = .ok (.istore_n 1, 1) := by decide +kernel
theorem dX6_areAlike_88 : decode cX6_areAlike 88 = .ok (.iinc 2 1, 3) := by decide +kernel
theorem dX6_areAlike_91 : decode cX6_areAlike 91 = .ok (.goto (-39), 3) := by decide +kernel
theorem dX6_areAlike_94 : decode cX6_areAlike 94 = .ok (.iload_n 1, 1) := by decide +kernel
theorem dX6_areAlike_95 : decode cX6_areAlike 95 = .ok (.ireturn, 1) := by decide +kernel
set_option maxRecDepth 20000 in
theorem ggX6_setRight_X6_isIn : GoodIn wsX6_setRight wsX6_isIn := goodIn_r _ [6] (by decide +kernel) (by decide +kernel)
set_option maxRecDepth 20000 in
theorem gX6_setRight_X6_isIn : GoodIn wsX6_setRight (va_wsS RX6 84 yX6_isIn wsX6_isIn) := goodIn_app (goodIn_of _ (by decide +kernel)) ggX6_setRight_X6_isIn
theorem dX6_setRight_0 : decode cX6_setRight 0 = .ok (.aload_n 0, 1) := by decide +kernel
theorem dX6_setRight_1 : decode cX6_setRight 1 = .ok (.iload_n 1, 1) := by decide +kernel
theorem dX6_setRight_2 : decode cX6_setRight 2 = .ok (.iconst 0, 1) := by decide +kernel
theorem dX6_setRight_3 : decode cX6_setRight 3 = .ok (.iconst 2, 1) := by decide +kernel
theorem dX6_setRight_4 : decode cX6_setRight 4 = .ok (.invokestatic 84, 3) := by decide +kernel
theorem dX6_setRight_7 : decode cX6_setRight 7 = .ok (.ifCond .eq 13, 3) := by decide +kernel
theorem dX6_setRight_10 : decode cX6_setRight 10 = .ok (.iload_n 2, 1) := by decide +kernel
theorem dX6_setRight_11 : decode cX6_setRight 11 = .ok (.iconst 0, 1) := by decide +kernel
theorem dX6_setRight_12 : decode cX6_setRight 12 = .ok (.bipush 41, 2) := by decide +kernel
theorem dX6_setRight_14 : decode cX6_setRight 14 = .ok (.invokestatic 84, 3) := by decide +kernel
theorem dX6_setRight_17 : decode cX6_setRight 17 = .ok (.ifCond .ne 7, 3) := by decide +kernel
theorem dX6_setRight_20 : decode cX6_setRight 20 = .ok (.iconst 1, 1) := by decide +kernel
theorem dX6_setRight_21 : decode cX6_setRight 21 = .ok (.goto 17, 3) := by decide +kernel
theorem dX6_setRight_24 : decode cX6_setRight 24 = .ok (.iload_n 3, 1) := by decide +kernel
theorem dX6_setRight_25 : decode cX6_setRight 25 = .ok (.iconst (-1), 1) := by decide +kernel
theorem dX6_setRight_26 : decode cX6_setRight 26 = .ok (.iconst 1, 1) := by decide +kernel
theorem dX6_setRight_27 : decode cX6_setRight 27 = .ok (.invokestatic 84, 3) := by decide +kernel
theorem dX6_setRight_30 : decode cX6_setRight 30 = .ok (.ifCond .eq 7, 3) := by decide +kernel
theorem dX6_setRight_33 : decode cX6_setRight 33 = .ok (.iconst 0, 1) := by decide +kernel
theorem dX6_setRight_34 : decode cX6_setRight 34 = .ok (.goto 4, 3) := by decide +kernel
theorem dX6_setRight_37 : decode cX6_setRight 37 = .ok (.iconst 2, 1) := by decide +kernel
theorem dX6_setRight_38 : decode cX6_setRight 38 = .ok (.putfield 80, 3) := by decide +kernel
theorem dX6_setRight_41 : decode cX6_setRight 41 = .ok (.aload_n 0, 1) := by decide +kernel
theorem dX6_setRight_42 : decode cX6_setRight 42 = .ok (.getfield 80, 3) := by decide +kernel
theorem dX6_setRight_45 : decode cX6_setRight 45 = .ok (.ifCond .ne 15, 3) := by decide +kernel
theorem dX6_setRight_48 : decode cX6_setRight 48 = .ok (.aload_n 0, 1) := by decide +kernel
theorem dX6_setRight_49 : decode cX6_setRight 49 = .ok (.getfield 43, 3) := by decide +kernel
theorem dX6_setRight_52 : decode cX6_setRight 52 = .ok (.bipush 42, 2) := by decide +kernel
theorem dX6_setRight_54 : decode cX6_setRight 54 = .ok (.iload_n 1, 1) := by decide +kernel
theorem dX6_setRight_55 : decode cX6_setRight 55 = .ok (.imul, 1) := by decide +kernel
theorem dX6_setRight_56 : decode cX6_setRight 56 = .ok (.iload_n 2, 1) := by decide +kernel
theorem dX6_setRight_57 : decode cX6_setRight 57 = .ok (.iadd, 1) := by decide +kernel
theorem dX6_setRight_58 : decode cX6_setRight 58 = .ok (.iload_n 3, 1) := by decide +kernel
theorem dX6_setRight_59 : decode cX6_setRight 59 = .ok (.iastore, 1) := by decide +kernel
theorem dX6_setRight_60 : decode cX6_setRight 60 = .ok (.return_, 1) := by decide +kernel
set_option maxRecDepth 20000 in
theorem ggX6_refer_X6_isIn : GoodIn wsX6_refer wsX6_isIn := goodIn_r _ [6] (by decide +kernel) (by decide +kernel)
set_option maxRecDepth 20000 in
theorem gX6_refer_X6_isIn : GoodIn wsX6_refer (va_wsS RX6 84 yX6_isIn wsX6_isIn) := goodIn_app (goodIn_of _ (by decide +kernel)) ggX6_refer_X6_isIn
theorem dX6_refer_0 : decode cX6_refer 0 = .ok (.aload_n 0, 1) := by decide +kernel
theorem dX6_refer_1 : decode cX6_refer 1 = .ok (.iload_n 1, 1) := by decide +kernel
theorem dX6_refer_2 : decode cX6_refer 2 = .ok (.iconst 0, 1) := by decide +kernel
theorem dX6_refer_3 : decode cX6_refer 3 = .ok (.bipush 41, 2) := by decide +kernel
theorem dX6_refer_5 : decode cX6_refer 5 = .ok (.invokestatic 84, 3) := by decide +kernel
theorem dX6_refer_8 : decode cX6_refer 8 = .ok (.ifCond .eq 7, 3) := by decide +kernel
theorem dX6_refer_11 : decode cX6_refer 11 = .ok (.iconst 0, 1) := by decide +kernel
theorem dX6_refer_12 : decode cX6_refer 12 = .ok (.goto 4, 3) := by decide +kernel
theorem dX6_refer_15 : decode cX6_refer 15 = .ok (.iconst 1, 1) := by decide +kernel
theorem dX6_refer_16 : decode cX6_refer 16 = .ok (.putfield 80, 3) := by decide +kernel
theorem dX6_refer_19 : decode cX6_refer 19 = .ok (.aload_n 0, 1) := by decide +kernel
theorem dX6_refer_20 : decode cX6_refer 20 = .ok (.getfield 80, 3) := by decide +kernel
theorem dX6_refer_23 : decode cX6_refer 23 = .ok (.ifCond .ne 10, 3) := by decide +kernel
theorem dX6_refer_26 : decode cX6_refer 26 = .ok (.aload_n 0, 1) := by decide +kernel
theorem dX6_refer_27 : decode cX6_refer 27 = .ok (.getfield 46, 3) := by decide +kernel
theorem dX6_refer_30 : decode cX6_refer 30 = .ok (.iload_n 1, 1) := by decide +kernel
theorem dX6_refer_31 : decode cX6_refer 31 = .ok (.iload_n 2, 1) := by decide +kernel
theorem dX6_refer_32 : decode cX6_refer 32 = .ok (.bastore, 1) := by decide +kernel
theorem dX6_refer_33 : decode cX6_refer 33 = .ok (.return_, 1) := by decide +kernel
theorem dX6_makes_0 : decode cX6_makes 0 = .ok (.aload_n 0, 1) := by decide +kernel
theorem dX6_makes_1 : decode cX6_makes 1 = .ok (.getfield 50, 3) := by decide +kernel
theorem dX6_makes_4 : decode cX6_makes 4 = .ok (.aload_n 0, 1) := by decide +kernel
theorem dX6_makes_5 : decode cX6_makes 5 = .ok (.getfield 146, 3) := by decide +kernel
theorem dX6_makes_8 : decode cX6_makes 8 = .ok (.iload_n 1, 1) := by decide +kernel
theorem dX6_makes_9 : decode cX6_makes 9 = .ok (.iastore, 1) := by decide +kernel
theorem dX6_makes_10 : decode cX6_makes 10 = .ok (.aload_n 0, 1) := by decide +kernel
theorem dX6_makes_11 : decode cX6_makes 11 = .ok (.getfield 53, 3) := by decide +kernel
theorem dX6_makes_14 : decode cX6_makes 14 = .ok (.aload_n 0, 1) := by decide +kernel
theorem dX6_makes_15 : decode cX6_makes 15 = .ok (.getfield 146, 3) := by decide +kernel
theorem dX6_makes_18 : decode cX6_makes 18 = .ok (.iload_n 2, 1) := by decide +kernel
theorem dX6_makes_19 : decode cX6_makes 19 = .ok (.iastore, 1) := by decide +kernel
theorem dX6_makes_20 : decode cX6_makes 20 = .ok (.aload_n 0, 1) := by decide +kernel
theorem dX6_makes_21 : decode cX6_makes 21 = .ok (.getfield 56, 3) := by decide +kernel
theorem dX6_makes_24 : decode cX6_makes 24 = .ok (.aload_n 0, 1) := by decide +kernel
theorem dX6_makes_25 : decode cX6_makes 25 = .ok (.getfield 146, 3) := by decide +kernel
theorem dX6_makes_28 : decode cX6_makes 28 = .ok (.iload_n 3, 1) := by decide +kernel
theorem dX6_makes_29 : decode cX6_makes 29 = .ok (.iastore, 1) := by decide +kernel
theorem dX6_makes_30 : decode cX6_makes 30 = .ok (.aload_n 0, 1) := by decide +kernel
theorem dX6_makes_31 : decode cX6_makes 31 = .ok (.dup, 1) := by decide +kernel
theorem dX6_makes_32 : decode cX6_makes 32 = .ok (.getfield 146, 3) := by decide +kernel
theorem dX6_makes_35 : decode cX6_makes 35 = .ok (.iconst 1, 1) := by decide +kernel
theorem dX6_makes_36 : decode cX6_makes 36 = .ok (.iadd, 1) := by decide +kernel
theorem dX6_makes_37 : decode cX6_makes 37 = .ok (.putfield 146, 3) := by decide +kernel
theorem dX6_makes_40 : decode cX6_makes 40 = .ok (.aload_n 0, 1) := by decide +kernel
theorem dX6_makes_41 : decode cX6_makes 41 = .ok (.getfield 146, 3) := by decide +kernel
theorem dX6_makes_44 : decode cX6_makes 44 = .ok (.iconst 1, 1) := by decide +kernel
theorem dX6_makes_45 : decode cX6_makes 45 = .ok (.isub, 1) := by decide +kernel
theorem dX6_makes_46 : decode cX6_makes 46 = .ok (.ireturn, 1) := by decide +kernel
set_option maxRecDepth 20000 in
theorem ggX6_test_X6_isIn : GoodIn wsX6_test wsX6_isIn := goodIn_r _ [6] (by decide +kernel) (by decide +kernel)
set_option maxRecDepth 20000 in
theorem gX6_test_X6_isIn : GoodIn wsX6_test (va_wsS RX6 84 yX6_isIn wsX6_isIn) := goodIn_app (goodIn_of _ (by decide +kernel)) ggX6_test_X6_isIn
set_option maxRecDepth 20000 in
theorem ggX6_test_X6_makes : GoodIn wsX6_test wsX6_makes := goodIn_r _ [10, 11, 1, 12, 13, 14, 15, 16, 17, 18, 19, 20, 21, 22, 23, 24, 25, 26, 27, 28, 29, 30, 31, 32, 33, 34, 35, 36, 37, 38, 39] (by decide +kernel) (by decide +kernel)
set_option maxRecDepth 20000 in
theorem gX6_test_X6_makes : GoodIn wsX6_test (wsV RX6 149 RX6 yX6_makes wsX6_makes) := goodIn_app (goodIn_of _ (by decide +kernel)) ggX6_test_X6_makes
theorem dX6_test_0 : decode cX6_test 0 = .ok (.iload_n 1, 1) := by decide +kernel
theorem dX6_test_1 : decode cX6_test 1 = .ok (.iconst 0, 1) := by decide +kernel
theorem dX6_test_2 : decode cX6_test 2 = .ok (.iconst 2, 1) := by decide +kernel
theorem dX6_test_3 : decode cX6_test 3 = .ok (.invokestatic 84, 3) := by decide +kernel
theorem dX6_test_6 : decode cX6_test 6 = .ok (.ifCond .eq 26, 3) := by decide +kernel
theorem dX6_test_9 : decode cX6_test 9 = .ok (.iload_n 2, 1) := by decide +kernel
theorem dX6_test_10 : decode cX6_test 10 = .ok (.iconst 0, 1) := by decide +kernel
theorem dX6_test_11 : decode cX6_test 11 = .ok (.iconst 3, 1) := by decide +kernel
theorem dX6_test_12 : decode cX6_test 12 = .ok (.invokestatic 84, 3) := by decide +kernel
theorem dX6_test_15 : decode cX6_test 15 = .ok (.ifCond .eq 17, 3) := by decide +kernel
theorem dX6_test_18 : decode cX6_test 18 = .ok (.iload_n 3, 1) := by decide +kernel
theorem dX6_test_19 : decode cX6_test 19 = .ok (.iconst 0, 1) := by decide +kernel
theorem dX6_test_20 : decode cX6_test 20 = .ok (.bipush 9, 2) := by decide +kernel
theorem dX6_test_22 : decode cX6_test 22 = .ok (.invokestatic 84, 3) := by decide +kernel
theorem dX6_test_25 : decode cX6_test 25 = .ok (.ifCond .eq 7, 3) := by decide +kernel
theorem dX6_test_28 : decode cX6_test 28 = .ok (.iconst 1, 1) := by decide +kernel
theorem dX6_test_29 : decode cX6_test 29 = .ok (.goto 4, 3) := by decide +kernel
theorem dX6_test_32 : decode cX6_test 32 = .ok (.iconst 0, 1) := by decide +kernel
theorem dX6_test_33 : decode cX6_test 33 = .ok (.istore 4, 2) := by decide +kernel
theorem dX6_test_35 : decode cX6_test 35 = .ok (.aload_n 0, 1) := by decide +kernel
theorem dX6_test_36 : decode cX6_test 36 = .ok (.iload 4, 2) := by decide +kernel
theorem dX6_test_38 : decode cX6_test 38 = .ok (.ifCond .ne 7, 3) := by decide +kernel
theorem dX6_test_41 : decode cX6_test 41 = .ok (.iconst 1, 1) := by decide +kernel
theorem dX6_test_42 : decode cX6_test 42 = .ok (.goto 17, 3) := by decide +kernel
theorem dX6_test_45 : decode cX6_test 45 = .ok (.aload_n 0, 1) := by decide +kernel
theorem dX6_test_46 : decode cX6_test 46 = .ok (.getfield 146, 3) := by decide +kernel
theorem dX6_test_49 : decode cX6_test 49 = .ok (.bipush 20, 2) := by decide +kernel
theorem dX6_test_51 : decode cX6_test 51 = .ok (.if_icmp .ne 7, 3) := by decide +kernel
theorem dX6_test_54 : decode cX6_test 54 = .ok (.iconst 2, 1) := by decide +kernel
theorem dX6_test_55 : decode cX6_test 55 = .ok (.goto 4, 3) := by decide +kernel
theorem dX6_test_58 : decode cX6_test 58 = .ok (.iconst 0, 1) := by decide +kernel
theorem dX6_test_59 : decode cX6_test 59 = .ok (.putfield 80, 3) := by decide +kernel
theorem dX6_test_62 : decode cX6_test 62 = .ok (.aload_n 0, 1) := by decide +kernel
theorem dX6_test_63 : decode cX6_test 63 = .ok (.getfield 80, 3) := by decide +kernel
theorem dX6_test_66 : decode cX6_test 66 = .ok (.ifCond .le 7, 3) := by decide +kernel
theorem dX6_test_69 : decode cX6_test 69 = .ok (.iconst 0, 1) := by decide +kernel
theorem dX6_test_70 : decode cX6_test 70 = .ok (.goto 10, 3) := by decide +kernel
theorem dX6_test_73 : decode cX6_test 73 = .ok (.aload_n 0, 1) := by decide +kernel
theorem dX6_test_74 : decode cX6_test 74 = .ok (.iload_n 1, 1) := by decide +kernel
theorem dX6_test_75 : decode cX6_test 75 = .ok (.iload_n 2, 1) := by decide +kernel
theorem dX6_test_76 : decode cX6_test 76 = .ok (.iload_n 3, 1) := by decide +kernel
theorem dX6_test_77 : decode cX6_test 77 = .ok (.invokevirtual 149, 3) := by decide +kernel
theorem dX6_test_80 : decode cX6_test 80 = .ok (.ireturn, 1) := by decide +kernel
set_option maxRecDepth 20000 in
theorem ggX6_isFilter_X6_isIn : GoodIn wsX6_isFilter wsX6_isIn := goodIn_r _ [5] (by decide +kernel) (by decide +kernel)
set_option maxRecDepth 20000 in
theorem gX6_isFilter_X6_isIn : GoodIn wsX6_isFilter (va_wsS RX6 84 yX6_isIn wsX6_isIn) := goodIn_app (goodIn_of _ (by decide +kernel)) ggX6_isFilter_X6_isIn
theorem dX6_isFilter_0 : decode cX6_isFilter 0 = .ok (.iload_n 1, 1) := by decide +kernel
theorem dX6_isFilter_1 : decode cX6_isFilter 1 = .ok (.iconst 0, 1) := by decide +kernel
theorem dX6_isFilter_2 : decode cX6_isFilter 2 = .ok (.aload_n 0, 1) := by decide +kernel
theorem dX6_isFilter_3 : decode cX6_isFilter 3 = .ok (.getfield 146, 3) := by decide +kernel
theorem dX6_isFilter_6 : decode cX6_isFilter 6 = .ok (.iconst 1, 1) := by decide +kernel
theorem dX6_isFilter_7 : decode cX6_isFilter 7 = .ok (.isub, 1) := by decide +kernel
theorem dX6_isFilter_8 : decode cX6_isFilter 8 = .ok (.invokestatic 84, 3) := by decide +kernel
theorem dX6_isFilter_11 : decode cX6_isFilter 11 = .ok (.ireturn, 1) := by decide +kernel
set_option maxRecDepth 20000 in
theorem ggX6_join_X6_isFilter : GoodIn wsX6_join wsX6_isFilter := goodIn_r _ [7, 1, 8, 9, 6, 10, 18, 19, 20, 21, 22, 23, 24, 25, 26, 27, 28, 29, 30, 31, 32, 33, 34, 35, 36, 37, 38, 39, 40, 41, 42, 43] (by decide +kernel) (by decide +kernel)
set_option maxRecDepth 20000 in
theorem gX6_join_X6_isFilter : GoodIn wsX6_join (wsV RX6 152 RX6 yX6_isFilter wsX6_isFilter) := goodIn_app (goodIn_of _ (by decide +kernel)) ggX6_join_X6_isFilter
set_option maxRecDepth 20000 in
theorem ggX6_join_X6_isIn : GoodIn wsX6_join wsX6_isIn := goodIn_r _ [10] (by decide +kernel) (by decide +kernel)
set_option maxRecDepth 20000 in
theorem gX6_join_X6_isIn : GoodIn wsX6_join (va_wsS RX6 84 yX6_isIn wsX6_isIn) := goodIn_app (goodIn_of _ (by decide +kernel)) ggX6_join_X6_isIn
set_option maxRecDepth 20000 in
theorem ggX6_join_X6_makes : GoodIn wsX6_join wsX6_makes := goodIn_r _ [14, 15, 1, 16, 17, 18, 19, 20, 21, 22, 23, 24, 25, 26, 27, 28, 29, 30, 31, 32, 33, 34, 35, 36, 37, 38, 39, 40, 41, 42, 43] (by decide +kernel) (by decide +kernel)
set_option maxRecDepth 20000 in
theorem gX6_join_X6_makes : GoodIn wsX6_join (wsV RX6 149 RX6 yX6_makes wsX6_makes) := goodIn_app (goodIn_of _ (by decide +kernel)) ggX6_join_X6_makes
theorem dX6_join_0 : decode cX6_join 0 = .ok (.aload_n 0, 1) := by decide +kernel
theorem dX6_join_1 : decode cX6_join 1 = .ok (.aload_n 0, 1) := by decide +kernel
theorem dX6_join_2 : decode cX6_join 2 = .ok (.iload_n 2, 1) := by decide +kernel
theorem dX6_join_3 : decode cX6_join 3 = .ok (.invokevirtual 152, 3) := by decide +kernel
theorem dX6_join_6 : decode cX6_join 6 = .ok (.ifCond .eq 11, 3) := by decide +kernel
theorem dX6_join_9 : decode cX6_join 9 = .ok (.aload_n 0, 1) := by decide +kernel
theorem dX6_join_10 : decode cX6_join 10 = .ok (.iload_n 3, 1) := by decide +kernel
theorem dX6_join_11 : decode cX6_join 11 = .ok (.invokevirtual 152, 3) := by decide +kernel
theorem dX6_join_14 : decode cX6_join 14 = .ok (.ifCond .ne 7, 3) := by decide +kernel
theorem dX6_join_17 : decode cX6_join 17 = .ok (.iconst 1, 1) := by decide +kernel
theorem dX6_join_18 : decode cX6_join 18 = .ok (.goto 30, 3) := by decide +kernel
theorem dX6_join_21 : decode cX6_join 21 = .ok (.iload_n 1, 1) := by decide +kernel
theorem dX6_join_22 : decode cX6_join 22 = .ok (.iconst 0, 1) := by decide +kernel
theorem dX6_join_23 : decode cX6_join 23 = .ok (.iconst 2, 1) := by decide +kernel
theorem dX6_join_24 : decode cX6_join 24 = .ok (.invokestatic 84, 3) := by decide +kernel
theorem dX6_join_27 : decode cX6_join 27 = .ok (.ifCond .ne 7, 3) := by decide +kernel
theorem dX6_join_30 : decode cX6_join 30 = .ok (.iconst 2, 1) := by decide +kernel
theorem dX6_join_31 : decode cX6_join 31 = .ok (.goto 17, 3) := by decide +kernel
theorem dX6_join_34 : decode cX6_join 34 = .ok (.aload_n 0, 1) := by decide +kernel
theorem dX6_join_35 : decode cX6_join 35 = .ok (.getfield 146, 3) := by decide +kernel
theorem dX6_join_38 : decode cX6_join 38 = .ok (.bipush 20, 2) := by decide +kernel
theorem dX6_join_40 : decode cX6_join 40 = .ok (.if_icmp .ne 7, 3) := by decide +kernel
theorem dX6_join_43 : decode cX6_join 43 = .ok (.iconst 3, 1) := by decide +kernel
theorem dX6_join_44 : decode cX6_join 44 = .ok (.goto 4, 3) := by decide +kernel
theorem dX6_join_47 : decode cX6_join 47 = .ok (.iconst 0, 1) := by decide +kernel
theorem dX6_join_48 : decode cX6_join 48 = .ok (.putfield 80, 3) := by decide +kernel
theorem dX6_join_51 : decode cX6_join 51 = .ok (.aload_n 0, 1) := by decide +kernel
theorem dX6_join_52 : decode cX6_join 52 = .ok (.getfield 80, 3) := by decide +kernel
theorem dX6_join_55 : decode cX6_join 55 = .ok (.ifCond .le 7, 3) := by decide +kernel
theorem dX6_join_58 : decode cX6_join 58 = .ok (.iconst 0, 1) := by decide +kernel
theorem dX6_join_59 : decode cX6_join 59 = .ok (.goto 12, 3) := by decide +kernel
theorem dX6_join_62 : decode cX6_join 62 = .ok (.aload_n 0, 1) := by decide +kernel
theorem dX6_join_63 : decode cX6_join 63 = .ok (.iconst 3, 1) := by decide +kernel
theorem dX6_join_64 : decode cX6_join 64 = .ok (.iload_n 1, 1) := by decide +kernel
theorem dX6_join_65 : decode cX6_join 65 = .ok (.iadd, 1) := by decide +kernel
theorem dX6_join_66 : decode cX6_join 66 = .ok (.iload_n 2, 1) := by decide +kernel
theorem dX6_join_67 : decode cX6_join 67 = .ok (.iload_n 3, 1) := by decide +kernel
theorem dX6_join_68 : decode cX6_join 68 = .ok (.invokevirtual 149, 3) := by decide +kernel
theorem dX6_join_71 : decode cX6_join 71 = .ok (.ireturn, 1) := by decide +kernel
set_option maxRecDepth 20000 in
theorem ggX6_tested_X6_allowed : GoodIn wsX6_tested wsX6_allowed := goodIn_r _ [9, 10, 11, 12, 13, 14, 15, 16, 17, 18, 19, 20, 21, 22, 23, 24, 25, 26, 27, 28, 29, 30, 31, 32, 33, 34, 35, 36, 37] (by decide +kernel) (by decide +kernel)
set_option maxRecDepth 20000 in
theorem gX6_tested_X6_allowed : GoodIn wsX6_tested (wsV RX6 103 RX6 yX6_allowed wsX6_allowed) := goodIn_app (goodIn_of _ (by decide +kernel)) ggX6_tested_X6_allowed
theorem dX6_tested_0 : decode cX6_tested 0 = .ok (.aload_n 0, 1) := by decide +kernel
theorem dX6_tested_1 : decode cX6_tested 1 = .ok (.getfield 74, 3) := by decide +kernel
theorem dX6_tested_4 : decode cX6_tested 4 = .ok (.iconst 4, 1) := by decide +kernel
theorem dX6_tested_5 : decode cX6_tested 5 = .ok (.iload_n 2, 1) := by decide +kernel
theorem dX6_tested_6 : decode cX6_tested 6 = .ok (.imul, 1) := by decide +kernel
theorem dX6_tested_7 : decode cX6_tested 7 = .ok (.aload_n 0, 1) := by decide +kernel
theorem dX6_tested_8 : decode cX6_tested 8 = .ok (.getfield 53, 3) := by decide +kernel
theorem dX6_tested_11 : decode cX6_tested 11 = .ok (.iload_n 1, 1) := by decide +kernel
theorem dX6_tested_12 : decode cX6_tested 12 = .ok (.iaload, 1) := by decide +kernel
theorem dX6_tested_13 : decode cX6_tested 13 = .ok (.iadd, 1) := by decide +kernel
theorem dX6_tested_14 : decode cX6_tested 14 = .ok (.iaload, 1) := by decide +kernel
theorem dX6_tested_15 : decode cX6_tested 15 = .ok (.istore_n 3, 1) := by decide +kernel
theorem dX6_tested_16 : decode cX6_tested 16 = .ok (.aload_n 0, 1) := by decide +kernel
theorem dX6_tested_17 : decode cX6_tested 17 = .ok (.getfield 50, 3) := by decide +kernel
theorem dX6_tested_20 : decode cX6_tested 20 = .ok (.iload_n 1, 1) := by decide +kernel
theorem dX6_tested_21 : decode cX6_tested 21 = .ok (.iaload, 1) := by decide +kernel
theorem dX6_tested_22 : decode cX6_tested 22 = .ok (.ifCond .ne 15, 3) := by decide +kernel
theorem dX6_tested_25 : decode cX6_tested 25 = .ok (.iload_n 3, 1) := by decide +kernel
theorem dX6_tested_26 : decode cX6_tested 26 = .ok (.ifCond .lt 7, 3) := by decide +kernel
theorem dX6_tested_29 : decode cX6_tested 29 = .ok (.iconst 1, 1) := by decide +kernel
theorem dX6_tested_30 : decode cX6_tested 30 = .ok (.goto 50, 3) := by decide +kernel
theorem dX6_tested_33 : decode cX6_tested 33 = .ok (.iconst 0, 1) := by decide +kernel
theorem dX6_tested_34 : decode cX6_tested 34 = .ok (.goto 46, 3) := by decide +kernel
theorem dX6_tested_37 : decode cX6_tested 37 = .ok (.aload_n 0, 1) := by decide +kernel
theorem dX6_tested_38 : decode cX6_tested 38 = .ok (.getfield 50, 3) := by decide +kernel
theorem dX6_tested_41 : decode cX6_tested 41 = .ok (.iload_n 1, 1) := by decide +kernel
theorem dX6_tested_42 : decode cX6_tested 42 = .ok (.iaload, 1) := by decide +kernel
theorem dX6_tested_43 : decode cX6_tested 43 = .ok (.iconst 1, 1) := by decide +kernel
theorem dX6_tested_44 : decode cX6_tested 44 = .ok (.if_icmp .ne 21, 3) := by decide +kernel
theorem dX6_tested_47 : decode cX6_tested 47 = .ok (.iload_n 3, 1) := by decide +kernel
theorem dX6_tested_48 : decode cX6_tested 48 = .ok (.aload_n 0, 1) := by decide +kernel
theorem dX6_tested_49 : decode cX6_tested 49 = .ok (.getfield 56, 3) := by decide +kernel
theorem dX6_tested_52 : decode cX6_tested 52 = .ok (.iload_n 1, 1) := by decide +kernel
theorem dX6_tested_53 : decode cX6_tested 53 = .ok (.iaload, 1) := by decide +kernel
theorem dX6_tested_54 : decode cX6_tested 54 = .ok (.if_icmp .ne 7, 3) := by decide +kernel
theorem dX6_tested_57 : decode cX6_tested 57 = .ok (.iconst 1, 1) := by decide +kernel
theorem dX6_tested_58 : decode cX6_tested 58 = .ok (.goto 22, 3) := by decide +kernel
theorem dX6_tested_61 : decode cX6_tested 61 = .ok (.iconst 0, 1) := by decide +kernel
theorem dX6_tested_62 : decode cX6_tested 62 = .ok (.goto 18, 3) := by decide +kernel
theorem dX6_tested_65 : decode cX6_tested 65 = .ok (.iload_n 3, 1) := by decide +kernel
theorem dX6_tested_66 : decode cX6_tested 66 = .ok (.aload_n 0, 1) := by decide +kernel
theorem dX6_tested_67 : decode cX6_tested 67 = .ok (.getfield 56, 3) := by decide +kernel
theorem dX6_tested_70 : decode cX6_tested 70 = .ok (.iload_n 1, 1) := by decide +kernel
theorem dX6_tested_71 : decode cX6_tested 71 = .ok (.iaload, 1) := by decide +kernel
theorem dX6_tested_72 : decode cX6_tested 72 = .ok (.if_icmp .lt 7, 3) := by decide +kernel
theorem dX6_tested_75 : decode cX6_tested 75 = .ok (.iconst 1, 1) := by decide +kernel
theorem dX6_tested_76 : decode cX6_tested 76 = .ok (.goto 4, 3) := by decide +kernel
theorem dX6_tested_79 : decode cX6_tested 79 = .ok (.iconst 0, 1) := by decide +kernel
theorem dX6_tested_80 : decode cX6_tested 80 = .ok (.istore 4, 2) := by decide +kernel
theorem dX6_tested_82 : decode cX6_tested 82 = .ok (.aload_n 0, 1) := by decide +kernel
theorem dX6_tested_83 : decode cX6_tested 83 = .ok (.iload_n 2, 1) := by decide +kernel
theorem dX6_tested_84 : decode cX6_tested 84 = .ok (.aload_n 0, 1) := by decide +kernel
theorem dX6_tested_85 : decode cX6_tested 85 = .ok (.getfield 53, 3) := by decide +kernel
theorem dX6_tested_88 : decode cX6_tested 88 = .ok (.iload_n 1, 1) := by decide +kernel
theorem dX6_tested_89 : decode cX6_tested 89 = .ok (.iaload, 1) := by decide +kernel
theorem dX6_tested_90 : decode cX6_tested 90 = .ok (.invokevirtual 103, 3) := by decide +kernel
theorem dX6_tested_93 : decode cX6_tested 93 = .ok (.ifCond .ne 7, 3) := by decide +kernel
theorem dX6_tested_96 : decode cX6_tested 96 = .ok (.iconst (-1), 1) := by decide +kernel
theorem dX6_tested_97 : decode cX6_tested 97 = .ok (.goto 13, 3) := by decide +kernel
theorem dX6_tested_100 : decode cX6_tested 100 = .ok (.iload 4, 2) := by decide +kernel
theorem dX6_tested_102 : decode cX6_tested 102 = .ok (.ifCond .eq 7, 3) := by decide +kernel
theorem dX6_tested_105 : decode cX6_tested 105 = .ok (.iconst 1, 1) := by decide +kernel
theorem dX6_tested_106 : decode cX6_tested 106 = .ok (.goto 4, 3) := by decide +kernel
theorem dX6_tested_109 : decode cX6_tested 109 = .ok (.iconst 0, 1) := by decide +kernel
theorem dX6_tested_110 : decode cX6_tested 110 = .ok (.ireturn, 1) := by decide +kernel
theorem dX6_both_0 : decode cX6_both 0 = .ok (.iload_n 0, 1) := by decide +kernel
theorem dX6_both_1 : decode cX6_both 1 = .ok (.ifCond .eq 7, 3) := by decide +kernel
theorem dX6_both_4 : decode cX6_both 4 = .ok (.iload_n 1, 1) := by decide +kernel
theorem dX6_both_5 : decode cX6_both 5 = .ok (.ifCond .ne 7, 3) := by decide +kernel
theorem dX6_both_8 : decode cX6_both 8 = .ok (.iconst 0, 1) := by decide +kernel
theorem dX6_both_9 : decode cX6_both 9 = .ok (.goto 16, 3) := by decide +kernel
theorem dX6_both_12 : decode cX6_both 12 = .ok (.iload_n 0, 1) := by decide +kernel
theorem dX6_both_13 : decode cX6_both 13 = .ok (.ifCond .lt 7, 3) := by decide +kernel
theorem dX6_both_16 : decode cX6_both 16 = .ok (.iload_n 1, 1) := by decide +kernel
theorem dX6_both_17 : decode cX6_both 17 = .ok (.ifCond .ge 7, 3) := by decide +kernel
theorem dX6_both_20 : decode cX6_both 20 = .ok (.iconst (-1), 1) := by decide +kernel
theorem dX6_both_21 : decode cX6_both 21 = .ok (.goto 4, 3) := by decide +kernel
theorem dX6_both_24 : decode cX6_both 24 = .ok (.iconst 1, 1) := by decide +kernel
theorem dX6_both_25 : decode cX6_both 25 = .ok (.ireturn, 1) := by decide +kernel
theorem dX6_not_0 : decode cX6_not 0 = .ok (.iload_n 0, 1) := by decide +kernel
theorem dX6_not_1 : decode cX6_not 1 = .ok (.ifCond .ge 7, 3) := by decide +kernel
theorem dX6_not_4 : decode cX6_not 4 = .ok (.iconst (-1), 1) := by decide +kernel
theorem dX6_not_5 : decode cX6_not 5 = .ok (.goto 6, 3) := by decide +kernel
theorem dX6_not_8 : decode cX6_not 8 = .ok (.iconst 1, 1) := by decide +kernel
theorem dX6_not_9 : decode cX6_not 9 = .ok (.iload_n 0, 1) := by decide +kernel
theorem dX6_not_10 : decode cX6_not 10 = .ok (.isub, 1) := by decide +kernel
theorem dX6_not_11 : decode cX6_not 11 = .ok (.ireturn, 1) := by decide +kernel
set_option maxRecDepth 20000 in
theorem ggX6_filtered_X6_tested : GoodIn wsX6_filtered wsX6_tested := goodIn_r _ [9, 10, 3, 1, 4, 11, 12, 13, 8, 14, 15, 16, 23, 24, 25, 26, 27, 28, 29, 30, 31, 32, 33, 34, 35, 36, 37, 38, 39, 40, 41, 42, 43, 44, 45, 46, 47, 48] (by decide +kernel) (by decide +kernel)
set_option maxRecDepth 20000 in
theorem gX6_filtered_X6_tested : GoodIn wsX6_filtered (wsV RX6 155 RX6 yX6_tested wsX6_tested) := goodIn_app (goodIn_of _ (by decide +kernel)) ggX6_filtered_X6_tested
set_option maxRecDepth 20000 in
theorem ggX6_filtered_X6_both : GoodIn wsX6_filtered wsX6_both := goodIn_r _ [19] (by decide +kernel) (by decide +kernel)
set_option maxRecDepth 20000 in
theorem gX6_filtered_X6_both : GoodIn wsX6_filtered (va_wsS RX6 158 yX6_both wsX6_both) := goodIn_app (goodIn_of _ (by decide +kernel)) ggX6_filtered_X6_both
set_option maxRecDepth 20000 in
theorem ggX6_filtered_X6_not : GoodIn wsX6_filtered wsX6_not := goodIn_r _ [22] (by decide +kernel) (by decide +kernel)
set_option maxRecDepth 20000 in
theorem gX6_filtered_X6_not : GoodIn wsX6_filtered (va_wsS RX6 161 yX6_not wsX6_not) := goodIn_app (goodIn_of _ (by decide +kernel)) ggX6_filtered_X6_not
theorem dX6_filtered_0 : decode cX6_filtered 0 = .ok (.iconst 0, 1) := by decide +kernel
theorem dX6_filtered_1 : decode cX6_filtered 1 = .ok (.istore_n 3, 1) := by decide +kernel
theorem dX6_filtered_2 : decode cX6_filtered 2 = .ok (.iload_n 3, 1) := by decide +kernel
theorem dX6_filtered_3 : decode cX6_filtered 3 = .ok (.iload_n 1, 1) := by decide +kernel
theorem dX6_filtered_4 : decode cX6_filtered 4 = .ok (.if_icmp .gt 142, 3) := by decide +kernel
theorem dX6_filtered_7 : decode cX6_filtered 7 = .ok (.aload_n 0, 1) := by decide +kernel
theorem dX6_filtered_8 : decode cX6_filtered 8 = .ok (.getfield 50, 3) := by decide +kernel
theorem dX6_filtered_11 : decode cX6_filtered 11 = .ok (.iload_n 3, 1) := by decide +kernel
theorem dX6_filtered_12 : decode cX6_filtered 12 = .ok (.iaload, 1) := by decide +kernel
theorem dX6_filtered_13 : decode cX6_filtered 13 = .ok (.iconst 3, 1) := by decide +kernel
theorem dX6_filtered_14 : decode cX6_filtered 14 = .ok (.if_icmp .ge 7, 3) := by decide +kernel
theorem dX6_filtered_17 : decode cX6_filtered 17 = .ok (.iconst 0, 1) := by decide +kernel
theorem dX6_filtered_18 : decode cX6_filtered 18 = .ok (.goto 14, 3) := by decide +kernel
theorem dX6_filtered_21 : decode cX6_filtered 21 = .ok (.aload_n 0, 1) := by decide +kernel
theorem dX6_filtered_22 : decode cX6_filtered 22 = .ok (.getfield 59, 3) := by decide +kernel
theorem dX6_filtered_25 : decode cX6_filtered 25 = .ok (.aload_n 0, 1) := by decide +kernel
theorem dX6_filtered_26 : decode cX6_filtered 26 = .ok (.getfield 53, 3) := by decide +kernel
theorem dX6_filtered_29 : decode cX6_filtered 29 = .ok (.iload_n 3, 1) := by decide +kernel
theorem dX6_filtered_30 : decode cX6_filtered 30 = .ok (.iaload, 1) := by decide +kernel
theorem dX6_filtered_31 : decode cX6_filtered 31 = .ok (.iaload, 1) := by decide +kernel
theorem dX6_filtered_32 : decode cX6_filtered 32 = .ok (.istore 4, 2) := by decide +kernel
theorem dX6_filtered_34 : decode cX6_filtered 34 = .ok (.aload_n 0, 1) := by decide +kernel
theorem dX6_filtered_35 : decode cX6_filtered 35 = .ok (.getfield 50, 3) := by decide +kernel
theorem dX6_filtered_38 : decode cX6_filtered 38 = .ok (.iload_n 3, 1) := by decide +kernel
theorem dX6_filtered_39 : decode cX6_filtered 39 = .ok (.iaload, 1) := by decide +kernel
theorem dX6_filtered_40 : decode cX6_filtered 40 = .ok (.iconst 3, 1) := by decide +kernel
theorem dX6_filtered_41 : decode cX6_filtered 41 = .ok (.if_icmp .ge 7, 3) := by decide +kernel
theorem dX6_filtered_44 : decode cX6_filtered 44 = .ok (.iconst 0, 1) := by decide +kernel
theorem dX6_filtered_45 : decode cX6_filtered 45 = .ok (.goto 14, 3) := by decide +kernel
theorem dX6_filtered_48 : decode cX6_filtered 48 = .ok (.aload_n 0, 1) := by decide +kernel
theorem dX6_filtered_49 : decode cX6_filtered 49 = .ok (.getfield 59, 3) := by decide +kernel
theorem dX6_filtered_52 : decode cX6_filtered 52 = .ok (.aload_n 0, 1) := by decide +kernel
theorem dX6_filtered_53 : decode cX6_filtered 53 = .ok (.getfield 56, 3) := by decide +kernel
theorem dX6_filtered_56 : decode cX6_filtered 56 = .ok (.iload_n 3, 1) := by decide +kernel
theorem dX6_filtered_57 : decode cX6_filtered 57 = .ok (.iaload, 1) := by decide +kernel
theorem dX6_filtered_58 : decode cX6_filtered 58 = .ok (.iaload, 1) := by decide +kernel
theorem dX6_filtered_59 : decode cX6_filtered 59 = .ok (.istore 5, 2) := by decide +kernel
theorem dX6_filtered_61 : decode cX6_filtered 61 = .ok (.aload_n 0, 1) := by decide +kernel
theorem dX6_filtered_62 : decode cX6_filtered 62 = .ok (.getfield 59, 3) := by decide +kernel
theorem dX6_filtered_65 : decode cX6_filtered 65 = .ok (.iload_n 3, 1) := by decide +kernel
theorem dX6_filtered_66 : decode cX6_filtered 66 = .ok (.aload_n 0, 1) := by decide +kernel
theorem dX6_filtered_67 : decode cX6_filtered 67 = .ok (.getfield 50, 3) := by decide +kernel
theorem dX6_filtered_70 : decode cX6_filtered 70 = .ok (.iload_n 3, 1) := by decide +kernel
theorem dX6_filtered_71 : decode cX6_filtered 71 = .ok (.iaload, 1) := by decide +kernel
theorem dX6_filtered_72 : decode cX6_filtered 72 = .ok (.iconst 3, 1) := by decide +kernel
theorem dX6_filtered_73 : decode cX6_filtered 73 = .ok (.if_icmp .ge 12, 3) := by decide +kernel
theorem dX6_filtered_76 : decode cX6_filtered 76 = .ok (.aload_n 0, 1) := by decide +kernel
theorem dX6_filtered_77 : decode cX6_filtered 77 = .ok (.iload_n 3, 1) := by decide +kernel
theorem dX6_filtered_78 : decode cX6_filtered 78 = .ok (.iload_n 2, 1) := by decide +kernel
theorem dX6_filtered_79 : decode cX6_filtered 79 = .ok (.invokevirtual 155, 3) := by decide +kernel
theorem dX6_filtered_82 : decode cX6_filtered 82 = .ok (.goto 57, 3) := by decide +kernel
theorem dX6_filtered_85 : decode cX6_filtered 85 = .ok (.aload_n 0, 1) := by decide +kernel
theorem dX6_filtered_86 : decode cX6_filtered 86 = .ok (.getfield 50, 3) := by decide +kernel
theorem dX6_filtered_89 : decode cX6_filtered 89 = .ok (.iload_n 3, 1) := by decide +kernel
theorem dX6_filtered_90 : decode cX6_filtered 90 = .ok (.iaload, 1) := by decide +kernel
theorem dX6_filtered_91 : decode cX6_filtered 91 = .ok (.iconst 3, 1) := by decide +kernel
theorem dX6_filtered_92 : decode cX6_filtered 92 = .ok (.if_icmp .ne 13, 3) := by decide +kernel
theorem dX6_filtered_95 : decode cX6_filtered 95 = .ok (.iload 4, 2) := by decide +kernel
theorem dX6_filtered_97 : decode cX6_filtered 97 = .ok (.iload 5, 2) := by decide +kernel
theorem dX6_filtered_99 : decode cX6_filtered 99 = .ok (.invokestatic 158, 3) := by decide +kernel
theorem dX6_filtered_102 : decode cX6_filtered 102 = .ok (.goto 37, 3) := by decide +kernel
theorem dX6_filtered_105 : decode cX6_filtered 105 = .ok (.aload_n 0, 1) := by decide +kernel
theorem dX6_filtered_106 : decode cX6_filtered 106 = .ok (.getfield 50, 3) := by decide +kernel
theorem dX6_filtered_109 : decode cX6_filtered 109 = .ok (.iload_n 3, 1) := by decide +kernel
theorem dX6_filtered_110 : decode cX6_filtered 110 = .ok (.iaload, 1) := by decide +kernel
theorem dX6_filtered_111 : decode cX6_filtered 111 = .ok (.iconst 4, 1) := by decide +kernel
theorem dX6_filtered_112 : decode cX6_filtered 112 = .ok (.if_icmp .ne 22, 3) := by decide +kernel
theorem dX6_filtered_115 : decode cX6_filtered 115 = .ok (.iload 4, 2) := by decide +kernel
theorem dX6_filtered_117 : decode cX6_filtered 117 = .ok (.invokestatic 161, 3) := by decide +kernel
theorem dX6_filtered_120 : decode cX6_filtered 120 = .ok (.iload 5, 2) := by decide +kernel
theorem dX6_filtered_122 : decode cX6_filtered 122 = .ok (.invokestatic 161, 3) := by decide +kernel
theorem dX6_filtered_125 : decode cX6_filtered 125 = .ok (.invokestatic 158, 3) := by decide +kernel
theorem dX6_filtered_128 : decode cX6_filtered 128 = .ok (.invokestatic 161, 3) := by decide +kernel
theorem dX6_filtered_131 : decode cX6_filtered 131 = .ok (.goto 8, 3) := by decide +kernel
theorem dX6_filtered_134 : decode cX6_filtered 134 = .ok (.iload 4, 2) := by decide +kernel
theorem dX6_filtered_136 : decode cX6_filtered 136 = .ok (.invokestatic 161, 3) := by decide +kernel
theorem dX6_filtered_139 : decode cX6_filtered 139 = .ok (.iastore, 1) := by decide +kernel
theorem dX6_filtered_140 : decode cX6_filtered 140 = .ok (.iinc 3 1, 3) := by decide +kernel
theorem dX6_filtered_143 : decode cX6_filtered 143 = .ok (.goto (-141), 3) := by decide +kernel
theorem dX6_filtered_146 : decode cX6_filtered 146 = .ok (.aload_n 0, 1) := by decide +kernel
theorem dX6_filtered_147 : decode cX6_filtered 147 = .ok (.getfield 59, 3) := by decide +kernel
theorem dX6_filtered_150 : decode cX6_filtered 150 = .ok (.iload_n 1, 1) := by decide +kernel
theorem dX6_filtered_151 : decode cX6_filtered 151 = .ok (.iaload, 1) := by decide +kernel
theorem dX6_filtered_152 : decode cX6_filtered 152 = .ok (.ireturn, 1) := by decide +kernel
set_option maxRecDepth 20000 in
theorem ggX6_holds_X6_isMaster : GoodIn wsX6_holds wsX6_isMaster := goodIn_r _ [5, 6, 7, 4, 8] (by decide +kernel) (by decide +kernel)
set_option maxRecDepth 20000 in
theorem gX6_holds_X6_isMaster : GoodIn wsX6_holds (va_wsS RX6 120 yX6_isMaster wsX6_isMaster) := goodIn_app (goodIn_of _ (by decide +kernel)) ggX6_holds_X6_isMaster
set_option maxRecDepth 20000 in
theorem ggX6_holds_X6_isFilter : GoodIn wsX6_holds wsX6_isFilter := goodIn_r _ [12, 13, 6, 7, 4, 8, 87, 88, 89, 90, 91, 92, 93, 94, 95, 96, 97, 98, 99, 100, 101, 102, 103, 104, 105, 106, 107, 108, 109, 110, 111, 112] (by decide +kernel) (by decide +kernel)
set_option maxRecDepth 20000 in
theorem gX6_holds_X6_isFilter : GoodIn wsX6_holds (wsV RX6 152 RX6 yX6_isFilter wsX6_isFilter) := goodIn_app (goodIn_of _ (by decide +kernel)) ggX6_holds_X6_isFilter
set_option maxRecDepth 20000 in
theorem ggX6_holds_X6_isHere : GoodIn wsX6_holds wsX6_isHere := goodIn_r _ [17, 18, 2, 3, 4, 5, 6, 7, 8, 19, 20, 21, 22, 23, 24, 25, 26, 27, 28, 29, 30, 31, 32, 33, 34, 35, 36, 37, 38, 39, 40, 41, 42, 43, 44, 45, 46, 47, 48, 49, 50, 51, 52, 53, 54, 55, 56, 57, 58, 59, 60, 61, 62, 63, 64, 65, 66, 67, 68, 87, 88, 89, 90, 91, 92, 93, 94, 95, 96, 97, 98, 99, 100, 101, 102, 103, 104, 105, 106, 107, 108, 109, 110, 111, 112] (by decide +kernel) (by decide +kernel)
set_option maxRecDepth 20000 in
theorem gX6_holds_X6_isHere : GoodIn wsX6_holds (wsV RX6 127 RX6 yX6_isHere wsX6_isHere) := goodIn_app (goodIn_of _ (by decide +kernel)) ggX6_holds_X6_isHere
set_option maxRecDepth 20000 in
theorem ggX6_holds_X6_filtered : GoodIn wsX6_holds wsX6_filtered := goodIn_r _ [72, 73, 74, 75, 76, 77, 78, 79, 4, 80, 26, 60, 61, 62, 63, 64, 25, 81, 82, 83, 84, 85, 86, 87, 88, 89, 90, 91, 92, 93, 94, 95, 96, 97, 98, 99, 100, 101, 102, 103, 104, 105, 106, 107, 108, 109, 110, 111, 112] (by decide +kernel) (by decide +kernel)
set_option maxRecDepth 20000 in
theorem gX6_holds_X6_filtered : GoodIn wsX6_holds (wsV RX6 164 RX6 yX6_filtered wsX6_filtered) := goodIn_app (goodIn_of _ (by decide +kernel)) ggX6_holds_X6_filtered
theorem dX6_holds_0 : decode cX6_holds 0 = .ok (.aload_n 0, 1) := by decide +kernel
theorem dX6_holds_1 : decode cX6_holds 1 = .ok (.iload_n 1, 1) := by decide +kernel
theorem dX6_holds_2 : decode cX6_holds 2 = .ok (.invokestatic 120, 3) := by decide +kernel
theorem dX6_holds_5 : decode cX6_holds 5 = .ok (.ifCond .eq 24, 3) := by decide +kernel
theorem dX6_holds_8 : decode cX6_holds 8 = .ok (.aload_n 0, 1) := by decide +kernel
theorem dX6_holds_9 : decode cX6_holds 9 = .ok (.iload_n 2, 1) := by decide +kernel
theorem dX6_holds_10 : decode cX6_holds 10 = .ok (.invokevirtual 152, 3) := by decide +kernel
theorem dX6_holds_13 : decode cX6_holds 13 = .ok (.ifCond .eq 16, 3) := by decide +kernel
theorem dX6_holds_16 : decode cX6_holds 16 = .ok (.aload_n 0, 1) := by decide +kernel
theorem dX6_holds_17 : decode cX6_holds 17 = .ok (.iload_n 1, 1) := by decide +kernel
theorem dX6_holds_18 : decode cX6_holds 18 = .ok (.iload_n 3, 1) := by decide +kernel
theorem dX6_holds_19 : decode cX6_holds 19 = .ok (.invokevirtual 127, 3) := by decide +kernel
theorem dX6_holds_22 : decode cX6_holds 22 = .ok (.ifCond .eq 7, 3) := by decide +kernel
theorem dX6_holds_25 : decode cX6_holds 25 = .ok (.iconst 0, 1) := by decide +kernel
theorem dX6_holds_26 : decode cX6_holds 26 = .ok (.goto 4, 3) := by decide +kernel
theorem dX6_holds_29 : decode cX6_holds 29 = .ok (.iconst 1, 1) := by decide +kernel
theorem dX6_holds_30 : decode cX6_holds 30 = .ok (.putfield 80, 3) := by decide +kernel
theorem dX6_holds_33 : decode cX6_holds 33 = .ok (.aload_n 0, 1) := by decide +kernel
theorem dX6_holds_34 : decode cX6_holds 34 = .ok (.getfield 80, 3) := by decide +kernel
theorem dX6_holds_37 : decode cX6_holds 37 = .ok (.ifCond .le 7, 3) := by decide +kernel
theorem dX6_holds_40 : decode cX6_holds 40 = .ok (.iconst 0, 1) := by decide +kernel
theorem dX6_holds_41 : decode cX6_holds 41 = .ok (.goto 9, 3) := by decide +kernel
theorem dX6_holds_44 : decode cX6_holds 44 = .ok (.aload_n 0, 1) := by decide +kernel
theorem dX6_holds_45 : decode cX6_holds 45 = .ok (.iload_n 2, 1) := by decide +kernel
theorem dX6_holds_46 : decode cX6_holds 46 = .ok (.iload_n 3, 1) := by decide +kernel
theorem dX6_holds_47 : decode cX6_holds 47 = .ok (.invokevirtual 164, 3) := by decide +kernel
theorem dX6_holds_50 : decode cX6_holds 50 = .ok (.ireturn, 1) := by decide +kernel
theorem dX6_counted_0 : decode cX6_counted 0 = .ok (.iload_n 2, 1) := by decide +kernel
theorem dX6_counted_1 : decode cX6_counted 1 = .ok (.istore_n 3, 1) := by decide +kernel
theorem dX6_counted_2 : decode cX6_counted 2 = .ok (.iload_n 3, 1) := by decide +kernel
theorem dX6_counted_3 : decode cX6_counted 3 = .ok (.ifCond .lt 27, 3) := by decide +kernel
theorem dX6_counted_6 : decode cX6_counted 6 = .ok (.aload_n 0, 1) := by decide +kernel
theorem dX6_counted_7 : decode cX6_counted 7 = .ok (.getfield 43, 3) := by decide +kernel
theorem dX6_counted_10 : decode cX6_counted 10 = .ok (.bipush 42, 2) := by decide +kernel
theorem dX6_counted_12 : decode cX6_counted 12 = .ok (.iload_n 1, 1) := by decide +kernel
theorem dX6_counted_13 : decode cX6_counted 13 = .ok (.imul, 1) := by decide +kernel
theorem dX6_counted_14 : decode cX6_counted 14 = .ok (.iload_n 3, 1) := by decide +kernel
theorem dX6_counted_15 : decode cX6_counted 15 = .ok (.iadd, 1) := by decide +kernel
theorem dX6_counted_16 : decode cX6_counted 16 = .ok (.iaload, 1) := by decide +kernel
theorem dX6_counted_17 : decode cX6_counted 17 = .ok (.ifCond .ge 13, 3) := by decide +kernel
theorem dX6_counted_20 : decode cX6_counted 20 = .ok (.aload_n 0, 1) := by decide +kernel
theorem dX6_counted_21 : decode cX6_counted 21 = .ok (.getfield 65, 3) := by decide +kernel
theorem dX6_counted_24 : decode cX6_counted 24 = .ok (.iload_n 3, 1) := by decide +kernel
theorem dX6_counted_25 : decode cX6_counted 25 = .ok (.iaload, 1) := by decide +kernel
theorem dX6_counted_26 : decode cX6_counted 26 = .ok (.istore_n 3, 1) := by decide +kernel
theorem dX6_counted_27 : decode cX6_counted 27 = .ok (.goto (-25), 3) := by decide +kernel
theorem dX6_counted_30 : decode cX6_counted 30 = .ok (.iload_n 3, 1) := by decide +kernel
theorem dX6_counted_31 : decode cX6_counted 31 = .ok (.ifCond .ge 7, 3) := by decide +kernel
theorem dX6_counted_34 : decode cX6_counted 34 = .ok (.iconst 0, 1) := by decide +kernel
theorem dX6_counted_35 : decode cX6_counted 35 = .ok (.goto 14, 3) := by decide +kernel
theorem dX6_counted_38 : decode cX6_counted 38 = .ok (.aload_n 0, 1) := by decide +kernel
theorem dX6_counted_39 : decode cX6_counted 39 = .ok (.getfield 43, 3) := by decide +kernel
theorem dX6_counted_42 : decode cX6_counted 42 = .ok (.bipush 42, 2) := by decide +kernel
theorem dX6_counted_44 : decode cX6_counted 44 = .ok (.iload_n 1, 1) := by decide +kernel
theorem dX6_counted_45 : decode cX6_counted 45 = .ok (.imul, 1) := by decide +kernel
theorem dX6_counted_46 : decode cX6_counted 46 = .ok (.iload_n 3, 1) := by decide +kernel
theorem dX6_counted_47 : decode cX6_counted 47 = .ok (.iadd, 1) := by decide +kernel
theorem dX6_counted_48 : decode cX6_counted 48 = .ok (.iaload, 1) := by decide +kernel
theorem dX6_counted_49 : decode cX6_counted 49 = .ok (.ireturn, 1) := by decide +kernel
theorem dX6_rank_0 : decode cX6_rank 0 = .ok (.aload_n 0, 1) := by decide +kernel
theorem dX6_rank_1 : decode cX6_rank 1 = .ok (.getfield 68, 3) := by decide +kernel
theorem dX6_rank_4 : decode cX6_rank 4 = .ok (.iload_n 1, 1) := by decide +kernel
theorem dX6_rank_5 : decode cX6_rank 5 = .ok (.iaload, 1) := by decide +kernel
theorem dX6_rank_6 : decode cX6_rank 6 = .ok (.ifCond .ge 10, 3) := by decide +kernel
theorem dX6_rank_9 : decode cX6_rank 9 = .ok (.bipush 100, 2) := by decide +kernel
theorem dX6_rank_11 : decode cX6_rank 11 = .ok (.iload_n 1, 1) := by decide +kernel
theorem dX6_rank_12 : decode cX6_rank 12 = .ok (.iadd, 1) := by decide +kernel
theorem dX6_rank_13 : decode cX6_rank 13 = .ok (.goto 9, 3) := by decide +kernel
theorem dX6_rank_16 : decode cX6_rank 16 = .ok (.aload_n 0, 1) := by decide +kernel
theorem dX6_rank_17 : decode cX6_rank 17 = .ok (.getfield 68, 3) := by decide +kernel
theorem dX6_rank_20 : decode cX6_rank 20 = .ok (.iload_n 1, 1) := by decide +kernel
theorem dX6_rank_21 : decode cX6_rank 21 = .ok (.iaload, 1) := by decide +kernel
theorem dX6_rank_22 : decode cX6_rank 22 = .ok (.ireturn, 1) := by decide +kernel
set_option maxRecDepth 20000 in
theorem ggX6_behind_X6_rank : GoodIn wsX6_behind wsX6_rank := goodIn_r _ [8, 9, 10, 11, 12, 13, 14, 15, 16, 17, 18, 19, 20, 21, 22, 23, 24, 25, 26, 27, 28, 29, 30, 31, 32, 33, 34, 35] (by decide +kernel) (by decide +kernel)
set_option maxRecDepth 20000 in
theorem gX6_behind_X6_rank : GoodIn wsX6_behind (wsV RX6 167 RX6 yX6_rank wsX6_rank) := goodIn_app (goodIn_of _ (by decide +kernel)) ggX6_behind_X6_rank
theorem dX6_behind_0 : decode cX6_behind 0 = .ok (.iconst (-1), 1) := by decide +kernel
theorem dX6_behind_1 : decode cX6_behind 1 = .ok (.istore_n 3, 1) := by decide +kernel
theorem dX6_behind_2 : decode cX6_behind 2 = .ok (.iconst 0, 1) := by decide +kernel
theorem dX6_behind_3 : decode cX6_behind 3 = .ok (.istore 4, 2) := by decide +kernel
theorem dX6_behind_5 : decode cX6_behind 5 = .ok (.iload 4, 2) := by decide +kernel
theorem dX6_behind_7 : decode cX6_behind 7 = .ok (.bipush 42, 2) := by decide +kernel
theorem dX6_behind_9 : decode cX6_behind 9 = .ok (.if_icmp .ge 87, 3) := by decide +kernel
theorem dX6_behind_12 : decode cX6_behind 12 = .ok (.aload_n 0, 1) := by decide +kernel
theorem dX6_behind_13 : decode cX6_behind 13 = .ok (.getfield 62, 3) := by decide +kernel
theorem dX6_behind_16 : decode cX6_behind 16 = .ok (.iload 4, 2) := by decide +kernel
theorem dX6_behind_18 : decode cX6_behind 18 = .ok (.baload, 1) := by decide +kernel
theorem dX6_behind_19 : decode cX6_behind 19 = .ok (.ifCond .eq 38, 3) := by decide +kernel
theorem dX6_behind_22 : decode cX6_behind 22 = .ok (.aload_n 0, 1) := by decide +kernel
theorem dX6_behind_23 : decode cX6_behind 23 = .ok (.getfield 65, 3) := by decide +kernel
theorem dX6_behind_26 : decode cX6_behind 26 = .ok (.iload 4, 2) := by decide +kernel
theorem dX6_behind_28 : decode cX6_behind 28 = .ok (.iaload, 1) := by decide +kernel
theorem dX6_behind_29 : decode cX6_behind 29 = .ok (.iload_n 1, 1) := by decide +kernel
theorem dX6_behind_30 : decode cX6_behind 30 = .ok (.if_icmp .ne 27, 3) := by decide +kernel
theorem dX6_behind_33 : decode cX6_behind 33 = .ok (.aload_n 0, 1) := by decide +kernel
theorem dX6_behind_34 : decode cX6_behind 34 = .ok (.getfield 46, 3) := by decide +kernel
theorem dX6_behind_37 : decode cX6_behind 37 = .ok (.iload 4, 2) := by decide +kernel
theorem dX6_behind_39 : decode cX6_behind 39 = .ok (.baload, 1) := by decide +kernel
theorem dX6_behind_40 : decode cX6_behind 40 = .ok (.ifCond .ne 17, 3) := by decide +kernel
theorem dX6_behind_43 : decode cX6_behind 43 = .ok (.aload_n 0, 1) := by decide +kernel
theorem dX6_behind_44 : decode cX6_behind 44 = .ok (.iload 4, 2) := by decide +kernel
theorem dX6_behind_46 : decode cX6_behind 46 = .ok (.invokevirtual 167, 3) := by decide +kernel
theorem dX6_behind_49 : decode cX6_behind 49 = .ok (.iload_n 2, 1) := by decide +kernel
theorem dX6_behind_50 : decode cX6_behind 50 = .ok (.if_icmp .le 7, 3) := by decide +kernel
theorem dX6_behind_53 : decode cX6_behind 53 = .ok (.iconst 1, 1) := by decide +kernel
theorem dX6_behind_54 : decode cX6_behind 54 = .ok (.goto 4, 3) := by decide +kernel
theorem dX6_behind_57 : decode cX6_behind 57 = .ok (.iconst 0, 1) := by decide +kernel
theorem dX6_behind_58 : decode cX6_behind 58 = .ok (.istore 5, 2) := by decide +kernel
theorem dX6_behind_60 : decode cX6_behind 60 = .ok (.iload 5, 2) := by decide +kernel
theorem dX6_behind_62 : decode cX6_behind 62 = .ok (.ifCond .eq 26, 3) := by decide +kernel
theorem dX6_behind_65 : decode cX6_behind 65 = .ok (.iload_n 3, 1) := by decide +kernel
theorem dX6_behind_66 : decode cX6_behind 66 = .ok (.ifCond .lt 17, 3) := by decide +kernel
theorem dX6_behind_69 : decode cX6_behind 69 = .ok (.aload_n 0, 1) := by decide +kernel
theorem dX6_behind_70 : decode cX6_behind 70 = .ok (.iload 4, 2) := by decide +kernel
theorem dX6_behind_72 : decode cX6_behind 72 = .ok (.invokevirtual 167, 3) := by decide +kernel
theorem dX6_behind_75 : decode cX6_behind 75 = .ok (.aload_n 0, 1) := by decide +kernel
theorem dX6_behind_76 : decode cX6_behind 76 = .ok (.iload_n 3, 1) := by decide +kernel
theorem dX6_behind_77 : decode cX6_behind 77 = .ok (.invokevirtual 167, 3) := by decide +kernel
theorem dX6_behind_80 : decode cX6_behind 80 = .ok (.if_icmp .ge 8, 3) := by decide +kernel
theorem dX6_behind_83 : decode cX6_behind 83 = .ok (.iload 4, 2) := by decide +kernel
theorem dX6_behind_85 : decode cX6_behind 85 = .ok (.goto 4, 3) := by decide +kernel
theorem dX6_behind_88 : decode cX6_behind 88 = .ok (.iload_n 3, 1) := by decide +kernel
theorem dX6_behind_89 : decode cX6_behind 89 = .ok (.istore_n 3, 1) := by decide +kernel
theorem dX6_behind_90 : decode cX6_behind 90 = .ok (.iinc 4 1, 3) := by decide +kernel
theorem dX6_behind_93 : decode cX6_behind 93 = .ok (.goto (-88), 3) := by decide +kernel
theorem dX6_behind_96 : decode cX6_behind 96 = .ok (.iload_n 3, 1) := by decide +kernel
theorem dX6_behind_97 : decode cX6_behind 97 = .ok (.ireturn, 1) := by decide +kernel
set_option maxRecDepth 20000 in
theorem ggX6_goes_X6_behind : GoodIn wsX6_goes wsX6_behind := goodIn_r _ [6, 7, 1, 8, 9, 10, 11, 5, 12, 13, 14, 15, 16, 17, 18, 19, 20, 21, 22, 23, 24, 25, 26, 27, 28, 29, 30, 31, 32, 33, 34, 35, 36, 37, 38, 39] (by decide +kernel) (by decide +kernel)
set_option maxRecDepth 20000 in
theorem gX6_goes_X6_behind : GoodIn wsX6_goes (wsV RX6 170 RX6 yX6_behind wsX6_behind) := goodIn_app (goodIn_of _ (by decide +kernel)) ggX6_goes_X6_behind
set_option maxRecDepth 20000 in
theorem ggX6_goes_X6_rank : GoodIn wsX6_goes wsX6_rank := goodIn_r _ [12, 13, 14, 15, 16, 17, 18, 19, 20, 21, 22, 23, 24, 25, 26, 27, 28, 29, 30, 31, 32, 33, 34, 35, 36, 37, 38, 39] (by decide +kernel) (by decide +kernel)
set_option maxRecDepth 20000 in
theorem gX6_goes_X6_rank : GoodIn wsX6_goes (wsV RX6 167 RX6 yX6_rank wsX6_rank) := goodIn_app (goodIn_of _ (by decide +kernel)) ggX6_goes_X6_rank
theorem dX6_goes_0 : decode cX6_goes 0 = .ok (.iload_n 3, 1) := by decide +kernel
theorem dX6_goes_1 : decode cX6_goes 1 = .ok (.iconst 2, 1) := by decide +kernel
theorem dX6_goes_2 : decode cX6_goes 2 = .ok (.if_icmp .eq 13, 3) := by decide +kernel
theorem dX6_goes_5 : decode cX6_goes 5 = .ok (.iload_n 1, 1) := by decide +kernel
theorem dX6_goes_6 : decode cX6_goes 6 = .ok (.iload_n 2, 1) := by decide +kernel
theorem dX6_goes_7 : decode cX6_goes 7 = .ok (.if_icmp .ne 17, 3) := by decide +kernel
theorem dX6_goes_10 : decode cX6_goes 10 = .ok (.iload_n 3, 1) := by decide +kernel
theorem dX6_goes_11 : decode cX6_goes 11 = .ok (.iconst 1, 1) := by decide +kernel
theorem dX6_goes_12 : decode cX6_goes 12 = .ok (.if_icmp .ne 12, 3) := by decide +kernel
theorem dX6_goes_15 : decode cX6_goes 15 = .ok (.aload_n 0, 1) := by decide +kernel
theorem dX6_goes_16 : decode cX6_goes 16 = .ok (.iload_n 1, 1) := by decide +kernel
theorem dX6_goes_17 : decode cX6_goes 17 = .ok (.iconst (-1), 1) := by decide +kernel
theorem dX6_goes_18 : decode cX6_goes 18 = .ok (.invokevirtual 170, 3) := by decide +kernel
theorem dX6_goes_21 : decode cX6_goes 21 = .ok (.goto 4, 3) := by decide +kernel
theorem dX6_goes_24 : decode cX6_goes 24 = .ok (.iconst (-1), 1) := by decide +kernel
theorem dX6_goes_25 : decode cX6_goes 25 = .ok (.istore 4, 2) := by decide +kernel
theorem dX6_goes_27 : decode cX6_goes 27 = .ok (.iload_n 1, 1) := by decide +kernel
theorem dX6_goes_28 : decode cX6_goes 28 = .ok (.istore 5, 2) := by decide +kernel
theorem dX6_goes_30 : decode cX6_goes 30 = .ok (.iload 4, 2) := by decide +kernel
theorem dX6_goes_32 : decode cX6_goes 32 = .ok (.ifCond .ge 40, 3) := by decide +kernel
theorem dX6_goes_35 : decode cX6_goes 35 = .ok (.iload 5, 2) := by decide +kernel
theorem dX6_goes_37 : decode cX6_goes 37 = .ok (.iload_n 2, 1) := by decide +kernel
theorem dX6_goes_38 : decode cX6_goes 38 = .ok (.if_icmp .eq 34, 3) := by decide +kernel
theorem dX6_goes_41 : decode cX6_goes 41 = .ok (.aload_n 0, 1) := by decide +kernel
theorem dX6_goes_42 : decode cX6_goes 42 = .ok (.aload_n 0, 1) := by decide +kernel
theorem dX6_goes_43 : decode cX6_goes 43 = .ok (.getfield 65, 3) := by decide +kernel
theorem dX6_goes_46 : decode cX6_goes 46 = .ok (.iload 5, 2) := by decide +kernel
theorem dX6_goes_48 : decode cX6_goes 48 = .ok (.iaload, 1) := by decide +kernel
theorem dX6_goes_49 : decode cX6_goes 49 = .ok (.aload_n 0, 1) := by decide +kernel
theorem dX6_goes_50 : decode cX6_goes 50 = .ok (.iload 5, 2) := by decide +kernel
theorem dX6_goes_52 : decode cX6_goes 52 = .ok (.invokevirtual 167, 3) := by decide +kernel
theorem dX6_goes_55 : decode cX6_goes 55 = .ok (.invokevirtual 170, 3) := by decide +kernel
theorem dX6_goes_58 : decode cX6_goes 58 = .ok (.istore 4, 2) := by decide +kernel
theorem dX6_goes_60 : decode cX6_goes 60 = .ok (.aload_n 0, 1) := by decide +kernel
theorem dX6_goes_61 : decode cX6_goes 61 = .ok (.getfield 65, 3) := by decide +kernel
theorem dX6_goes_64 : decode cX6_goes 64 = .ok (.iload 5, 2) := by decide +kernel
theorem dX6_goes_66 : decode cX6_goes 66 = .ok (.iaload, 1) := by decide +kernel
theorem dX6_goes_67 : decode cX6_goes 67 = .ok (.istore 5, 2) := by decide +kernel
theorem dX6_goes_69 : decode cX6_goes 69 = .ok (.goto (-39), 3) := by decide +kernel
theorem dX6_goes_72 : decode cX6_goes 72 = .ok (.iload 4, 2) := by decide +kernel
theorem dX6_goes_74 : decode cX6_goes 74 = .ok (.ireturn, 1) := by decide +kernel
set_option maxRecDepth 20000 in
theorem ggX6_search_X6_isHere : GoodIn wsX6_search wsX6_isHere := goodIn_r _ [6, 7, 8, 9, 5, 10, 11, 12, 13, 14, 15, 16, 17, 18, 19, 20, 21, 22, 23, 24, 25, 26, 27, 28, 29, 30, 31, 32, 33, 34, 35, 36, 37, 38, 39, 40, 41, 42, 43, 44, 45, 46, 47, 48, 49, 50, 51, 52, 53, 54, 55, 56, 57, 58, 59, 60, 61, 62, 63, 105, 106, 107, 108, 109, 110, 111, 112, 113, 114, 115, 116, 117, 118, 119, 120, 121, 122, 123, 124, 125, 126, 127, 128, 129, 130] (by decide +kernel) (by decide +kernel)
set_option maxRecDepth 20000 in
theorem gX6_search_X6_isHere : GoodIn wsX6_search (wsV RX6 127 RX6 yX6_isHere wsX6_isHere) := goodIn_app (goodIn_of _ (by decide +kernel)) ggX6_search_X6_isHere
set_option maxRecDepth 20000 in
theorem ggX6_search_X6_isIn : GoodIn wsX6_search wsX6_isIn := goodIn_r _ [13] (by decide +kernel) (by decide +kernel)
set_option maxRecDepth 20000 in
theorem gX6_search_X6_isIn : GoodIn wsX6_search (va_wsS RX6 84 yX6_isIn wsX6_isIn) := goodIn_app (goodIn_of _ (by decide +kernel)) ggX6_search_X6_isIn
set_option maxRecDepth 20000 in
theorem ggX6_search_X6_isFilter : GoodIn wsX6_search wsX6_isFilter := goodIn_r _ [67, 68, 11, 12, 5, 13, 105, 106, 107, 108, 109, 110, 111, 112, 113, 114, 115, 116, 117, 118, 119, 120, 121, 122, 123, 124, 125, 126, 127, 128, 129, 130] (by decide +kernel) (by decide +kernel)
set_option maxRecDepth 20000 in
theorem gX6_search_X6_isFilter : GoodIn wsX6_search (wsV RX6 152 RX6 yX6_isFilter wsX6_isFilter) := goodIn_app (goodIn_of _ (by decide +kernel)) ggX6_search_X6_isFilter
set_option maxRecDepth 20000 in
theorem ggX6_search_X6_goes : GoodIn wsX6_search wsX6_goes := goodIn_r _ [72, 18, 73, 74, 75, 5, 76, 7, 77, 78, 79, 80, 81, 19, 105, 106, 107, 108, 109, 110, 111, 112, 113, 114, 115, 116, 117, 118, 119, 120, 121, 122, 123, 124, 125, 126, 127, 128, 129, 130] (by decide +kernel) (by decide +kernel)
set_option maxRecDepth 20000 in
theorem gX6_search_X6_goes : GoodIn wsX6_search (wsV RX6 173 RX6 yX6_goes wsX6_goes) := goodIn_app (goodIn_of _ (by decide +kernel)) ggX6_search_X6_goes
set_option maxRecDepth 20000 in
theorem ggX6_search_X6_filtered : GoodIn wsX6_search wsX6_filtered := goodIn_r _ [85, 86, 87, 88, 89, 90, 91, 92, 5, 93, 21, 55, 56, 57, 58, 59, 20, 94, 95, 96, 97, 98, 99, 105, 106, 107, 108, 109, 110, 111, 112, 113, 114, 115, 116, 117, 118, 119, 120, 121, 122, 123, 124, 125, 126, 127, 128, 129, 130] (by decide +kernel) (by decide +kernel)
set_option maxRecDepth 20000 in
theorem gX6_search_X6_filtered : GoodIn wsX6_search (wsV RX6 164 RX6 yX6_filtered wsX6_filtered) := goodIn_app (goodIn_of _ (by decide +kernel)) ggX6_search_X6_filtered
set_option maxRecDepth 20000 in
theorem ggX6_search_X6_counted : GoodIn wsX6_search wsX6_counted := goodIn_r _ [103, 104, 18, 105, 106, 107, 108, 109, 110, 111, 112, 113, 114, 115, 116, 117, 118, 119, 120, 121, 122, 123, 124, 125, 126, 127, 128, 129, 130] (by decide +kernel) (by decide +kernel)
set_option maxRecDepth 20000 in
theorem gX6_search_X6_counted : GoodIn wsX6_search (wsV RX6 176 RX6 yX6_counted wsX6_counted) := goodIn_app (goodIn_of _ (by decide +kernel)) ggX6_search_X6_counted
theorem dX6_search_0 : decode cX6_search 0 = .ok (.aload_n 0, 1) := by decide +kernel
theorem dX6_search_1 : decode cX6_search 1 = .ok (.iload_n 1, 1) := by decide +kernel
theorem dX6_search_2 : decode cX6_search 2 = .ok (.iload_n 3, 1) := by decide +kernel
theorem dX6_search_3 : decode cX6_search 3 = .ok (.invokevirtual 127, 3) := by decide +kernel
theorem dX6_search_6 : decode cX6_search 6 = .ok (.ifCond .eq 30, 3) := by decide +kernel
theorem dX6_search_9 : decode cX6_search 9 = .ok (.iload_n 2, 1) := by decide +kernel
theorem dX6_search_10 : decode cX6_search 10 = .ok (.iconst 0, 1) := by decide +kernel
theorem dX6_search_11 : decode cX6_search 11 = .ok (.iconst 2, 1) := by decide +kernel
theorem dX6_search_12 : decode cX6_search 12 = .ok (.invokestatic 84, 3) := by decide +kernel
theorem dX6_search_15 : decode cX6_search 15 = .ok (.ifCond .eq 21, 3) := by decide +kernel
theorem dX6_search_18 : decode cX6_search 18 = .ok (.aload_n 0, 1) := by decide +kernel
theorem dX6_search_19 : decode cX6_search 19 = .ok (.iload 5, 2) := by decide +kernel
theorem dX6_search_21 : decode cX6_search 21 = .ok (.invokevirtual 152, 3) := by decide +kernel
theorem dX6_search_24 : decode cX6_search 24 = .ok (.ifCond .eq 12, 3) := by decide +kernel
theorem dX6_search_27 : decode cX6_search 27 = .ok (.iload 6, 2) := by decide +kernel
theorem dX6_search_29 : decode cX6_search 29 = .ok (.ifCond .lt 7, 3) := by decide +kernel
theorem dX6_search_32 : decode cX6_search 32 = .ok (.iconst 1, 1) := by decide +kernel
theorem dX6_search_33 : decode cX6_search 33 = .ok (.goto 4, 3) := by decide +kernel
theorem dX6_search_36 : decode cX6_search 36 = .ok (.iconst 0, 1) := by decide +kernel
theorem dX6_search_37 : decode cX6_search 37 = .ok (.istore 7, 2) := by decide +kernel
theorem dX6_search_39 : decode cX6_search 39 = .ok (.aload_n 0, 1) := by decide +kernel
theorem dX6_search_40 : decode cX6_search 40 = .ok (.iload 7, 2) := by decide +kernel
theorem dX6_search_42 : decode cX6_search 42 = .ok (.ifCond .ne 7, 3) := by decide +kernel
theorem dX6_search_45 : decode cX6_search 45 = .ok (.iconst 1, 1) := by decide +kernel
theorem dX6_search_46 : decode cX6_search 46 = .ok (.goto 18, 3) := by decide +kernel
theorem dX6_search_49 : decode cX6_search 49 = .ok (.iload 4, 2) := by decide +kernel
theorem dX6_search_51 : decode cX6_search 51 = .ok (.iconst 0, 1) := by decide +kernel
theorem dX6_search_52 : decode cX6_search 52 = .ok (.iconst 2, 1) := by decide +kernel
theorem dX6_search_53 : decode cX6_search 53 = .ok (.invokestatic 84, 3) := by decide +kernel
theorem dX6_search_56 : decode cX6_search 56 = .ok (.ifCond .eq 7, 3) := by decide +kernel
theorem dX6_search_59 : decode cX6_search 59 = .ok (.iconst 0, 1) := by decide +kernel
theorem dX6_search_60 : decode cX6_search 60 = .ok (.goto 4, 3) := by decide +kernel
theorem dX6_search_63 : decode cX6_search 63 = .ok (.iconst 2, 1) := by decide +kernel
theorem dX6_search_64 : decode cX6_search 64 = .ok (.putfield 80, 3) := by decide +kernel
theorem dX6_search_67 : decode cX6_search 67 = .ok (.aload_n 0, 1) := by decide +kernel
theorem dX6_search_68 : decode cX6_search 68 = .ok (.getfield 80, 3) := by decide +kernel
theorem dX6_search_71 : decode cX6_search 71 = .ok (.ifCond .le 5, 3) := by decide +kernel
theorem dX6_search_74 : decode cX6_search 74 = .ok (.iconst 0, 1) := by decide +kernel
theorem dX6_search_75 : decode cX6_search 75 = .ok (.ireturn, 1) := by decide +kernel
theorem dX6_search_76 : decode cX6_search 76 = .ok (.iconst 0, 1) := by decide +kernel
theorem dX6_search_77 : decode cX6_search 77 = .ok (.istore 8, 2) := by decide +kernel
theorem dX6_search_79 : decode cX6_search 79 = .ok (.iload 4, 2) := by decide +kernel
theorem dX6_search_81 : decode cX6_search 81 = .ok (.iconst 1, 1) := by decide +kernel
theorem dX6_search_82 : decode cX6_search 82 = .ok (.if_icmp .ne 13, 3) := by decide +kernel
theorem dX6_search_85 : decode cX6_search 85 = .ok (.aload_n 0, 1) := by decide +kernel
theorem dX6_search_86 : decode cX6_search 86 = .ok (.iload_n 3, 1) := by decide +kernel
theorem dX6_search_87 : decode cX6_search 87 = .ok (.iload_n 3, 1) := by decide +kernel
theorem dX6_search_88 : decode cX6_search 88 = .ok (.iconst 1, 1) := by decide +kernel
theorem dX6_search_89 : decode cX6_search 89 = .ok (.invokevirtual 173, 3) := by decide +kernel
theorem dX6_search_92 : decode cX6_search 92 = .ok (.goto 4, 3) := by decide +kernel
theorem dX6_search_95 : decode cX6_search 95 = .ok (.iload_n 3, 1) := by decide +kernel
theorem dX6_search_96 : decode cX6_search 96 = .ok (.istore 9, 2) := by decide +kernel
theorem dX6_search_98 : decode cX6_search 98 = .ok (.iload 9, 2) := by decide +kernel
theorem dX6_search_100 : decode cX6_search 100 = .ok (.ifCond .lt 85, 3) := by decide +kernel
theorem dX6_search_103 : decode cX6_search 103 = .ok (.aload_n 0, 1) := by decide +kernel
theorem dX6_search_104 : decode cX6_search 104 = .ok (.iload 5, 2) := by decide +kernel
theorem dX6_search_106 : decode cX6_search 106 = .ok (.iload 9, 2) := by decide +kernel
theorem dX6_search_108 : decode cX6_search 108 = .ok (.invokevirtual 164, 3) := by decide +kernel
theorem dX6_search_111 : decode cX6_search 111 = .ok (.iconst 1, 1) := by decide +kernel
theorem dX6_search_112 : decode cX6_search 112 = .ok (.if_icmp .ne 17, 3) := by decide +kernel
theorem dX6_search_115 : decode cX6_search 115 = .ok (.aload_n 0, 1) := by decide +kernel
theorem dX6_search_116 : decode cX6_search 116 = .ok (.iload_n 2, 1) := by decide +kernel
theorem dX6_search_117 : decode cX6_search 117 = .ok (.iload 9, 2) := by decide +kernel
theorem dX6_search_119 : decode cX6_search 119 = .ok (.invokevirtual 176, 3) := by decide +kernel
theorem dX6_search_122 : decode cX6_search 122 = .ok (.ifCond .ne 7, 3) := by decide +kernel
theorem dX6_search_125 : decode cX6_search 125 = .ok (.iconst 1, 1) := by decide +kernel
theorem dX6_search_126 : decode cX6_search 126 = .ok (.goto 4, 3) := by decide +kernel
theorem dX6_search_129 : decode cX6_search 129 = .ok (.iconst 0, 1) := by decide +kernel
theorem dX6_search_130 : decode cX6_search 130 = .ok (.istore 10, 2) := by decide +kernel
theorem dX6_search_132 : decode cX6_search 132 = .ok (.iload 10, 2) := by decide +kernel
theorem dX6_search_134 : decode cX6_search 134 = .ok (.ifCond .eq 13, 3) := by decide +kernel
theorem dX6_search_137 : decode cX6_search 137 = .ok (.iload 8, 2) := by decide +kernel
theorem dX6_search_139 : decode cX6_search 139 = .ok (.iload 6, 2) := by decide +kernel
theorem dX6_search_141 : decode cX6_search 141 = .ok (.if_icmp .ne 6, 3) := by decide +kernel
theorem dX6_search_144 : decode cX6_search 144 = .ok (.iload 9, 2) := by decide +kernel
theorem dX6_search_146 : decode cX6_search 146 = .ok (.ireturn, 1) := by decide +kernel
theorem dX6_search_147 : decode cX6_search 147 = .ok (.iload 8, 2) := by decide +kernel
theorem dX6_search_149 : decode cX6_search 149 = .ok (.iload 10, 2) := by decide +kernel
theorem dX6_search_151 : decode cX6_search 151 = .ok (.ifCond .eq 7, 3) := by decide +kernel
theorem dX6_search_154 : decode cX6_search 154 = .ok (.iconst 1, 1) := by decide +kernel
theorem dX6_search_155 : decode cX6_search 155 = .ok (.goto 4, 3) := by decide +kernel
theorem dX6_search_158 : decode cX6_search 158 = .ok (.iconst 0, 1) := by decide +kernel
theorem dX6_search_159 : decode cX6_search 159 = .ok (.iadd, 1) := by decide +kernel
theorem dX6_search_160 : decode cX6_search 160 = .ok (.istore 8, 2) := by decide +kernel
theorem dX6_search_162 : decode cX6_search 162 = .ok (.iload 4, 2) := by decide +kernel
theorem dX6_search_164 : decode cX6_search 164 = .ok (.ifCond .ne 7, 3) := by decide +kernel
theorem dX6_search_167 : decode cX6_search 167 = .ok (.iconst (-1), 1) := by decide +kernel
theorem dX6_search_168 : decode cX6_search 168 = .ok (.goto 12, 3) := by decide +kernel
theorem dX6_search_171 : decode cX6_search 171 = .ok (.aload_n 0, 1) := by decide +kernel
theorem dX6_search_172 : decode cX6_search 172 = .ok (.iload 9, 2) := by decide +kernel
theorem dX6_search_174 : decode cX6_search 174 = .ok (.iload_n 3, 1) := by decide +kernel
theorem dX6_search_175 : decode cX6_search 175 = .ok (.iload 4, 2) := by decide +kernel
theorem dX6_search_177 : decode cX6_search 177 = .ok (.invokevirtual 173, 3) := by decide +kernel
theorem dX6_search_180 : decode cX6_search 180 = .ok (.istore 9, 2) := by decide +kernel
theorem dX6_search_182 : decode cX6_search 182 = .ok (.goto (-84), 3) := by decide +kernel
theorem dX6_search_185 : decode cX6_search 185 = .ok (.iconst (-1), 1) := by decide +kernel
theorem dX6_search_186 : decode cX6_search 186 = .ok (.ireturn, 1) := by decide +kernel
