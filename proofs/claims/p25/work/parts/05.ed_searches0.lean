theorem dL_searches_0 : decode cL_searches 0 = .ok (.new 8, 3) := by decide +kernel
theorem dL_searches_3 : decode cL_searches 3 = .ok (.dup, 1) := by decide +kernel
theorem dL_searches_4 : decode cL_searches 4 = .ok (.invokespecial 111, 3) := by decide +kernel
theorem dL_searches_7 : decode cL_searches 7 = .ok (.astore_n 0, 1) := by decide +kernel
theorem dL_searches_8 : decode cL_searches 8 = .ok (.aload_n 0, 1) := by decide +kernel
theorem dL_searches_9 : decode cL_searches 9 = .ok (.iconst 1, 1) := by decide +kernel
theorem dL_searches_10 : decode cL_searches 10 = .ok (.iconst 1, 1) := by decide +kernel
theorem dL_searches_11 : decode cL_searches 11 = .ok (.iconst 2, 1) := by decide +kernel
theorem dL_searches_12 : decode cL_searches 12 = .ok (.invokestatic 92, 3) := by decide +kernel
theorem dL_searches_15 : decode cL_searches 15 = .ok (.ifCond .ne 231, 3) := by decide +kernel
theorem dL_searches_18 : decode cL_searches 18 = .ok (.aload_n 0, 1) := by decide +kernel
theorem dL_searches_19 : decode cL_searches 19 = .ok (.iconst 0, 1) := by decide +kernel
theorem dL_searches_20 : decode cL_searches 20 = .ok (.iconst 0, 1) := by decide +kernel
theorem dL_searches_21 : decode cL_searches 21 = .ok (.bipush 30, 2) := by decide +kernel
theorem dL_searches_23 : decode cL_searches 23 = .ok (.iconst 1, 1) := by decide +kernel
theorem dL_searches_24 : decode cL_searches 24 = .ok (.invokevirtual 26, 3) := by decide +kernel
theorem dL_searches_27 : decode cL_searches 27 = .ok (.iconst 2, 1) := by decide +kernel
theorem dL_searches_28 : decode cL_searches 28 = .ok (.if_icmp .ne 218, 3) := by decide +kernel
theorem dL_searches_31 : decode cL_searches 31 = .ok (.aload_n 0, 1) := by decide +kernel
theorem dL_searches_32 : decode cL_searches 32 = .ok (.iconst 0, 1) := by decide +kernel
theorem dL_searches_33 : decode cL_searches 33 = .ok (.iconst 2, 1) := by decide +kernel
theorem dL_searches_34 : decode cL_searches 34 = .ok (.bipush 9, 2) := by decide +kernel
theorem dL_searches_36 : decode cL_searches 36 = .ok (.iconst 1, 1) := by decide +kernel
theorem dL_searches_37 : decode cL_searches 37 = .ok (.invokevirtual 26, 3) := by decide +kernel
theorem dL_searches_40 : decode cL_searches 40 = .ok (.iconst 3, 1) := by decide +kernel
theorem dL_searches_41 : decode cL_searches 41 = .ok (.if_icmp .ne 205, 3) := by decide +kernel
theorem dL_searches_44 : decode cL_searches 44 = .ok (.aload_n 0, 1) := by decide +kernel
theorem dL_searches_45 : decode cL_searches 45 = .ok (.iconst 0, 1) := by decide +kernel
theorem dL_searches_46 : decode cL_searches 46 = .ok (.iconst 2, 1) := by decide +kernel
theorem dL_searches_47 : decode cL_searches 47 = .ok (.iconst 4, 1) := by decide +kernel
theorem dL_searches_48 : decode cL_searches 48 = .ok (.iconst 0, 1) := by decide +kernel
theorem dL_searches_49 : decode cL_searches 49 = .ok (.invokevirtual 26, 3) := by decide +kernel
theorem dL_searches_52 : decode cL_searches 52 = .ok (.iconst 4, 1) := by decide +kernel
theorem dL_searches_53 : decode cL_searches 53 = .ok (.if_icmp .ne 193, 3) := by decide +kernel
theorem dL_searches_56 : decode cL_searches 56 = .ok (.aload_n 0, 1) := by decide +kernel
theorem dL_searches_57 : decode cL_searches 57 = .ok (.iconst 0, 1) := by decide +kernel
theorem dL_searches_58 : decode cL_searches 58 = .ok (.iconst 0, 1) := by decide +kernel
theorem dL_searches_59 : decode cL_searches 59 = .ok (.iconst 3, 1) := by decide +kernel
theorem dL_searches_60 : decode cL_searches 60 = .ok (.iconst 2, 1) := by decide +kernel
theorem dL_searches_61 : decode cL_searches 61 = .ok (.invokevirtual 26, 3) := by decide +kernel
theorem dL_searches_64 : decode cL_searches 64 = .ok (.iconst 5, 1) := by decide +kernel
theorem dL_searches_65 : decode cL_searches 65 = .ok (.if_icmp .ne 181, 3) := by decide +kernel
theorem dL_searches_68 : decode cL_searches 68 = .ok (.aload_n 0, 1) := by decide +kernel
theorem dL_searches_69 : decode cL_searches 69 = .ok (.iconst 1, 1) := by decide +kernel
theorem dL_searches_70 : decode cL_searches 70 = .ok (.iconst 1, 1) := by decide +kernel
theorem dL_searches_71 : decode cL_searches 71 = .ok (.iconst 2, 1) := by decide +kernel
theorem dL_searches_72 : decode cL_searches 72 = .ok (.invokestatic 92, 3) := by decide +kernel
theorem dL_searches_75 : decode cL_searches 75 = .ok (.bipush (-73), 2) := by decide +kernel
theorem dL_searches_77 : decode cL_searches 77 = .ok (.if_icmp .ne 169, 3) := by decide +kernel
theorem dL_searches_80 : decode cL_searches 80 = .ok (.aload_n 0, 1) := by decide +kernel
theorem dL_searches_81 : decode cL_searches 81 = .ok (.iconst 0, 1) := by decide +kernel
theorem dL_searches_82 : decode cL_searches 82 = .ok (.iconst 2, 1) := by decide +kernel
theorem dL_searches_83 : decode cL_searches 83 = .ok (.invokevirtual 64, 3) := by decide +kernel
theorem dL_searches_86 : decode cL_searches 86 = .ok (.ifCond .ne 160, 3) := by decide +kernel
theorem dL_searches_89 : decode cL_searches 89 = .ok (.aload_n 0, 1) := by decide +kernel
theorem dL_searches_90 : decode cL_searches 90 = .ok (.iconst 0, 1) := by decide +kernel
theorem dL_searches_91 : decode cL_searches 91 = .ok (.iconst 4, 1) := by decide +kernel
theorem dL_searches_92 : decode cL_searches 92 = .ok (.invokevirtual 64, 3) := by decide +kernel
theorem dL_searches_95 : decode cL_searches 95 = .ok (.ifCond .eq 151, 3) := by decide +kernel
theorem dL_searches_98 : decode cL_searches 98 = .ok (.aload_n 0, 1) := by decide +kernel
theorem dL_searches_99 : decode cL_searches 99 = .ok (.iconst 1, 1) := by decide +kernel
theorem dL_searches_100 : decode cL_searches 100 = .ok (.iconst 0, 1) := by decide +kernel
theorem dL_searches_101 : decode cL_searches 101 = .ok (.iconst 2, 1) := by decide +kernel
theorem dL_searches_102 : decode cL_searches 102 = .ok (.iconst 2, 1) := by decide +kernel
theorem dL_searches_103 : decode cL_searches 103 = .ok (.iconst 5, 1) := by decide +kernel
theorem dL_searches_104 : decode cL_searches 104 = .ok (.invokestatic 98, 3) := by decide +kernel
theorem dL_searches_107 : decode cL_searches 107 = .ok (.bipush (-73), 2) := by decide +kernel
theorem dL_searches_109 : decode cL_searches 109 = .ok (.if_icmp .ne 137, 3) := by decide +kernel
theorem dL_searches_112 : decode cL_searches 112 = .ok (.aload_n 0, 1) := by decide +kernel
theorem dL_searches_113 : decode cL_searches 113 = .ok (.iconst 0, 1) := by decide +kernel
theorem dL_searches_114 : decode cL_searches 114 = .ok (.iconst 2, 1) := by decide +kernel
theorem dL_searches_115 : decode cL_searches 115 = .ok (.iconst 0, 1) := by decide +kernel
theorem dL_searches_116 : decode cL_searches 116 = .ok (.bipush 7, 2) := by decide +kernel
theorem dL_searches_118 : decode cL_searches 118 = .ok (.invokevirtual 30, 3) := by decide +kernel
theorem dL_searches_121 : decode cL_searches 121 = .ok (.iconst (-1), 1) := by decide +kernel
theorem dL_searches_122 : decode cL_searches 122 = .ok (.if_icmp .ne 124, 3) := by decide +kernel
theorem dL_searches_125 : decode cL_searches 125 = .ok (.aload_n 0, 1) := by decide +kernel
theorem dL_searches_126 : decode cL_searches 126 = .ok (.iconst 0, 1) := by decide +kernel
theorem dL_searches_127 : decode cL_searches 127 = .ok (.iconst 2, 1) := by decide +kernel
theorem dL_searches_128 : decode cL_searches 128 = .ok (.invokevirtual 64, 3) := by decide +kernel
theorem dL_searches_131 : decode cL_searches 131 = .ok (.ifCond .eq 115, 3) := by decide +kernel
theorem dL_searches_134 : decode cL_searches 134 = .ok (.aload_n 0, 1) := by decide +kernel
theorem dL_searches_135 : decode cL_searches 135 = .ok (.iconst 0, 1) := by decide +kernel
theorem dL_searches_136 : decode cL_searches 136 = .ok (.iconst 3, 1) := by decide +kernel
theorem dL_searches_137 : decode cL_searches 137 = .ok (.iconst 0, 1) := by decide +kernel
theorem dL_searches_138 : decode cL_searches 138 = .ok (.iconst 2, 1) := by decide +kernel
theorem dL_searches_139 : decode cL_searches 139 = .ok (.invokevirtual 30, 3) := by decide +kernel
theorem dL_searches_142 : decode cL_searches 142 = .ok (.iconst (-1), 1) := by decide +kernel
theorem dL_searches_143 : decode cL_searches 143 = .ok (.if_icmp .ne 103, 3) := by decide +kernel
theorem dL_searches_146 : decode cL_searches 146 = .ok (.aload_n 0, 1) := by decide +kernel
theorem dL_searches_147 : decode cL_searches 147 = .ok (.iconst 0, 1) := by decide +kernel
theorem dL_searches_148 : decode cL_searches 148 = .ok (.iconst 4, 1) := by decide +kernel
theorem dL_searches_149 : decode cL_searches 149 = .ok (.iconst 3, 1) := by decide +kernel
theorem dL_searches_150 : decode cL_searches 150 = .ok (.iconst 1, 1) := by decide +kernel
theorem dL_searches_151 : decode cL_searches 151 = .ok (.invokevirtual 30, 3) := by decide +kernel
theorem dL_searches_154 : decode cL_searches 154 = .ok (.iconst (-1), 1) := by decide +kernel
theorem dL_searches_155 : decode cL_searches 155 = .ok (.if_icmp .ne 91, 3) := by decide +kernel
theorem dL_searches_158 : decode cL_searches 158 = .ok (.aload_n 0, 1) := by decide +kernel
theorem dL_searches_159 : decode cL_searches 159 = .ok (.iconst 2, 1) := by decide +kernel
theorem dL_searches_160 : decode cL_searches 160 = .ok (.iconst 0, 1) := by decide +kernel
theorem dL_searches_161 : decode cL_searches 161 = .ok (.iconst 5, 1) := by decide +kernel
theorem dL_searches_162 : decode cL_searches 162 = .ok (.invokevirtual 70, 3) := by decide +kernel
theorem dL_searches_165 : decode cL_searches 165 = .ok (.ifCond .ne 81, 3) := by decide +kernel
theorem dL_searches_168 : decode cL_searches 168 = .ok (.aload_n 0, 1) := by decide +kernel
theorem dL_searches_169 : decode cL_searches 169 = .ok (.iconst 0, 1) := by decide +kernel
theorem dL_searches_170 : decode cL_searches 170 = .ok (.iconst 3, 1) := by decide +kernel
theorem dL_searches_171 : decode cL_searches 171 = .ok (.iconst 0, 1) := by decide +kernel
theorem dL_searches_172 : decode cL_searches 172 = .ok (.invokevirtual 70, 3) := by decide +kernel
theorem dL_searches_175 : decode cL_searches 175 = .ok (.iconst 1, 1) := by decide +kernel
theorem dL_searches_176 : decode cL_searches 176 = .ok (.if_icmp .ne 70, 3) := by decide +kernel
theorem dL_searches_179 : decode cL_searches 179 = .ok (.aload_n 0, 1) := by decide +kernel
theorem dL_searches_180 : decode cL_searches 180 = .ok (.iconst 2, 1) := by decide +kernel
theorem dL_searches_181 : decode cL_searches 181 = .ok (.iconst 1, 1) := by decide +kernel
theorem dL_searches_182 : decode cL_searches 182 = .ok (.iconst 1, 1) := by decide +kernel
theorem dL_searches_183 : decode cL_searches 183 = .ok (.invokevirtual 73, 3) := by decide +kernel
theorem dL_searches_186 : decode cL_searches 186 = .ok (.iconst 2, 1) := by decide +kernel
theorem dL_searches_187 : decode cL_searches 187 = .ok (.if_icmp .ne 59, 3) := by decide +kernel
theorem dL_searches_190 : decode cL_searches 190 = .ok (.aload_n 0, 1) := by decide +kernel
theorem dL_searches_191 : decode cL_searches 191 = .ok (.iconst 1, 1) := by decide +kernel
theorem dL_searches_192 : decode cL_searches 192 = .ok (.iconst 0, 1) := by decide +kernel
theorem dL_searches_193 : decode cL_searches 193 = .ok (.iconst 1, 1) := by decide +kernel
theorem dL_searches_194 : decode cL_searches 194 = .ok (.invokevirtual 73, 3) := by decide +kernel
theorem dL_searches_197 : decode cL_searches 197 = .ok (.iconst 3, 1) := by decide +kernel
theorem dL_searches_198 : decode cL_searches 198 = .ok (.if_icmp .ne 48, 3) := by decide +kernel
theorem dL_searches_201 : decode cL_searches 201 = .ok (.aload_n 0, 1) := by decide +kernel
theorem dL_searches_202 : decode cL_searches 202 = .ok (.iconst 0, 1) := by decide +kernel
theorem dL_searches_203 : decode cL_searches 203 = .ok (.iconst 0, 1) := by decide +kernel
theorem dL_searches_204 : decode cL_searches 204 = .ok (.iconst 1, 1) := by decide +kernel
theorem dL_searches_205 : decode cL_searches 205 = .ok (.invokevirtual 73, 3) := by decide +kernel
theorem dL_searches_208 : decode cL_searches 208 = .ok (.iconst 4, 1) := by decide +kernel
theorem dL_searches_209 : decode cL_searches 209 = .ok (.if_icmp .ne 37, 3) := by decide +kernel
theorem dL_searches_212 : decode cL_searches 212 = .ok (.aload_n 0, 1) := by decide +kernel
theorem dL_searches_213 : decode cL_searches 213 = .ok (.iconst 1, 1) := by decide +kernel
theorem dL_searches_214 : decode cL_searches 214 = .ok (.iconst 1, 1) := by decide +kernel
theorem dL_searches_215 : decode cL_searches 215 = .ok (.iconst 2, 1) := by decide +kernel
theorem dL_searches_216 : decode cL_searches 216 = .ok (.invokevirtual 73, 3) := by decide +kernel
theorem dL_searches_219 : decode cL_searches 219 = .ok (.iconst 5, 1) := by decide +kernel
theorem dL_searches_220 : decode cL_searches 220 = .ok (.if_icmp .ne 26, 3) := by decide +kernel
theorem dL_searches_223 : decode cL_searches 223 = .ok (.aload_n 0, 1) := by decide +kernel
theorem dL_searches_224 : decode cL_searches 224 = .ok (.iconst 1, 1) := by decide +kernel
theorem dL_searches_225 : decode cL_searches 225 = .ok (.iconst 0, 1) := by decide +kernel
theorem dL_searches_226 : decode cL_searches 226 = .ok (.iconst 2, 1) := by decide +kernel
theorem dL_searches_227 : decode cL_searches 227 = .ok (.invokevirtual 70, 3) := by decide +kernel
theorem dL_searches_230 : decode cL_searches 230 = .ok (.bipush 6, 2) := by decide +kernel
theorem dL_searches_232 : decode cL_searches 232 = .ok (.if_icmp .ne 14, 3) := by decide +kernel
theorem dL_searches_235 : decode cL_searches 235 = .ok (.aload_n 0, 1) := by decide +kernel
theorem dL_searches_236 : decode cL_searches 236 = .ok (.bipush 7, 2) := by decide +kernel
theorem dL_searches_238 : decode cL_searches 238 = .ok (.bipush 6, 2) := by decide +kernel
theorem dL_searches_240 : decode cL_searches 240 = .ok (.invokestatic 116, 3) := by decide +kernel
theorem dL_searches_243 : decode cL_searches 243 = .ok (.ifCond .ne 5, 3) := by decide +kernel
theorem dL_searches_246 : decode cL_searches 246 = .ok (.iconst 0, 1) := by decide +kernel
theorem dL_searches_247 : decode cL_searches 247 = .ok (.ireturn, 1) := by decide +kernel
theorem dL_searches_248 : decode cL_searches 248 = .ok (.aload_n 0, 1) := by decide +kernel
theorem dL_searches_249 : decode cL_searches 249 = .ok (.iconst 0, 1) := by decide +kernel
theorem dL_searches_250 : decode cL_searches 250 = .ok (.iconst 0, 1) := by decide +kernel
theorem dL_searches_251 : decode cL_searches 251 = .ok (.iconst 2, 1) := by decide +kernel
theorem dL_searches_252 : decode cL_searches 252 = .ok (.invokevirtual 76, 3) := by decide +kernel
theorem dL_searches_255 : decode cL_searches 255 = .ok (.iconst 1, 1) := by decide +kernel
theorem dL_searches_256 : decode cL_searches 256 = .ok (.if_icmp .ne 164, 3) := by decide +kernel
theorem dL_searches_259 : decode cL_searches 259 = .ok (.aload_n 0, 1) := by decide +kernel
theorem dL_searches_260 : decode cL_searches 260 = .ok (.iconst 0, 1) := by decide +kernel
theorem dL_searches_261 : decode cL_searches 261 = .ok (.iconst 0, 1) := by decide +kernel
theorem dL_searches_262 : decode cL_searches 262 = .ok (.iconst 3, 1) := by decide +kernel
theorem dL_searches_263 : decode cL_searches 263 = .ok (.invokevirtual 76, 3) := by decide +kernel
theorem dL_searches_266 : decode cL_searches 266 = .ok (.ifCond .ne 154, 3) := by decide +kernel
theorem dL_searches_269 : decode cL_searches 269 = .ok (.aload_n 0, 1) := by decide +kernel
theorem dL_searches_270 : decode cL_searches 270 = .ok (.iconst 0, 1) := by decide +kernel
theorem dL_searches_271 : decode cL_searches 271 = .ok (.iconst 0, 1) := by decide +kernel
theorem dL_searches_272 : decode cL_searches 272 = .ok (.iconst 4, 1) := by decide +kernel
theorem dL_searches_273 : decode cL_searches 273 = .ok (.invokevirtual 76, 3) := by decide +kernel
theorem dL_searches_276 : decode cL_searches 276 = .ok (.ifCond .ne 144, 3) := by decide +kernel
theorem dL_searches_279 : decode cL_searches 279 = .ok (.aload_n 0, 1) := by decide +kernel
theorem dL_searches_280 : decode cL_searches 280 = .ok (.iconst 0, 1) := by decide +kernel
theorem dL_searches_281 : decode cL_searches 281 = .ok (.iconst 1, 1) := by decide +kernel
theorem dL_searches_282 : decode cL_searches 282 = .ok (.iconst 2, 1) := by decide +kernel
theorem dL_searches_283 : decode cL_searches 283 = .ok (.invokevirtual 76, 3) := by decide +kernel
theorem dL_searches_286 : decode cL_searches 286 = .ok (.iconst (-1), 1) := by decide +kernel
theorem dL_searches_287 : decode cL_searches 287 = .ok (.if_icmp .ne 133, 3) := by decide +kernel
theorem dL_searches_290 : decode cL_searches 290 = .ok (.aload_n 0, 1) := by decide +kernel
theorem dL_searches_291 : decode cL_searches 291 = .ok (.iconst 0, 1) := by decide +kernel
