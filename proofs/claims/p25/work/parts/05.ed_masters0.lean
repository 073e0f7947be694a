theorem dL_masters_0 : decode cL_masters 0 = .ok (.new 8, 3) := by decide +kernel
theorem dL_masters_3 : decode cL_masters 3 = .ok (.dup, 1) := by decide +kernel
theorem dL_masters_4 : decode cL_masters 4 = .ok (.invokespecial 111, 3) := by decide +kernel
theorem dL_masters_7 : decode cL_masters 7 = .ok (.astore_n 0, 1) := by decide +kernel
theorem dL_masters_8 : decode cL_masters 8 = .ok (.aload_n 0, 1) := by decide +kernel
theorem dL_masters_9 : decode cL_masters 9 = .ok (.invokevirtual 83, 3) := by decide +kernel
theorem dL_masters_12 : decode cL_masters 12 = .ok (.ifCond .ne 270, 3) := by decide +kernel
theorem dL_masters_15 : decode cL_masters 15 = .ok (.aload_n 0, 1) := by decide +kernel
theorem dL_masters_16 : decode cL_masters 16 = .ok (.iconst 1, 1) := by decide +kernel
theorem dL_masters_17 : decode cL_masters 17 = .ok (.invokevirtual 48, 3) := by decide +kernel
theorem dL_masters_20 : decode cL_masters 20 = .ok (.iconst 2, 1) := by decide +kernel
theorem dL_masters_21 : decode cL_masters 21 = .ok (.if_icmp .ne 261, 3) := by decide +kernel
theorem dL_masters_24 : decode cL_masters 24 = .ok (.aload_n 0, 1) := by decide +kernel
theorem dL_masters_25 : decode cL_masters 25 = .ok (.invokevirtual 87, 3) := by decide +kernel
theorem dL_masters_28 : decode cL_masters 28 = .ok (.ifCond .eq 254, 3) := by decide +kernel
theorem dL_masters_31 : decode cL_masters 31 = .ok (.aload_n 0, 1) := by decide +kernel
theorem dL_masters_32 : decode cL_masters 32 = .ok (.iconst 0, 1) := by decide +kernel
theorem dL_masters_33 : decode cL_masters 33 = .ok (.iconst 0, 1) := by decide +kernel
theorem dL_masters_34 : decode cL_masters 34 = .ok (.iconst (-1), 1) := by decide +kernel
theorem dL_masters_35 : decode cL_masters 35 = .ok (.iconst (-1), 1) := by decide +kernel
theorem dL_masters_36 : decode cL_masters 36 = .ok (.invokestatic 112, 3) := by decide +kernel
theorem dL_masters_39 : decode cL_masters 39 = .ok (.ifCond .eq 243, 3) := by decide +kernel
theorem dL_masters_42 : decode cL_masters 42 = .ok (.aload_n 0, 1) := by decide +kernel
theorem dL_masters_43 : decode cL_masters 43 = .ok (.iconst 1, 1) := by decide +kernel
theorem dL_masters_44 : decode cL_masters 44 = .ok (.iconst 1, 1) := by decide +kernel
theorem dL_masters_45 : decode cL_masters 45 = .ok (.iconst 0, 1) := by decide +kernel
theorem dL_masters_46 : decode cL_masters 46 = .ok (.bipush 99, 2) := by decide +kernel
theorem dL_masters_48 : decode cL_masters 48 = .ok (.invokestatic 112, 3) := by decide +kernel
theorem dL_masters_51 : decode cL_masters 51 = .ok (.ifCond .eq 231, 3) := by decide +kernel
theorem dL_masters_54 : decode cL_masters 54 = .ok (.aload_n 0, 1) := by decide +kernel
theorem dL_masters_55 : decode cL_masters 55 = .ok (.iconst 0, 1) := by decide +kernel
theorem dL_masters_56 : decode cL_masters 56 = .ok (.iconst 2, 1) := by decide +kernel
theorem dL_masters_57 : decode cL_masters 57 = .ok (.invokevirtual 51, 3) := by decide +kernel
theorem dL_masters_60 : decode cL_masters 60 = .ok (.ifCond .ne 222, 3) := by decide +kernel
theorem dL_masters_63 : decode cL_masters 63 = .ok (.aload_n 0, 1) := by decide +kernel
theorem dL_masters_64 : decode cL_masters 64 = .ok (.iconst 0, 1) := by decide +kernel
theorem dL_masters_65 : decode cL_masters 65 = .ok (.iconst 0, 1) := by decide +kernel
theorem dL_masters_66 : decode cL_masters 66 = .ok (.bipush 49, 2) := by decide +kernel
theorem dL_masters_68 : decode cL_masters 68 = .ok (.invokevirtual 67, 3) := by decide +kernel
theorem dL_masters_71 : decode cL_masters 71 = .ok (.iconst 1, 1) := by decide +kernel
theorem dL_masters_72 : decode cL_masters 72 = .ok (.if_icmp .ne 210, 3) := by decide +kernel
theorem dL_masters_75 : decode cL_masters 75 = .ok (.aload_n 0, 1) := by decide +kernel
theorem dL_masters_76 : decode cL_masters 76 = .ok (.iconst 0, 1) := by decide +kernel
theorem dL_masters_77 : decode cL_masters 77 = .ok (.iconst 2, 1) := by decide +kernel
theorem dL_masters_78 : decode cL_masters 78 = .ok (.invokestatic 116, 3) := by decide +kernel
theorem dL_masters_81 : decode cL_masters 81 = .ok (.ifCond .eq 201, 3) := by decide +kernel
theorem dL_masters_84 : decode cL_masters 84 = .ok (.aload_n 0, 1) := by decide +kernel
theorem dL_masters_85 : decode cL_masters 85 = .ok (.iconst 0, 1) := by decide +kernel
theorem dL_masters_86 : decode cL_masters 86 = .ok (.iconst 0, 1) := by decide +kernel
theorem dL_masters_87 : decode cL_masters 87 = .ok (.iconst 5, 1) := by decide +kernel
theorem dL_masters_88 : decode cL_masters 88 = .ok (.iconst 0, 1) := by decide +kernel
theorem dL_masters_89 : decode cL_masters 89 = .ok (.invokevirtual 26, 3) := by decide +kernel
theorem dL_masters_92 : decode cL_masters 92 = .ok (.iconst 2, 1) := by decide +kernel
theorem dL_masters_93 : decode cL_masters 93 = .ok (.if_icmp .ne 189, 3) := by decide +kernel
theorem dL_masters_96 : decode cL_masters 96 = .ok (.aload_n 0, 1) := by decide +kernel
theorem dL_masters_97 : decode cL_masters 97 = .ok (.iconst 0, 1) := by decide +kernel
theorem dL_masters_98 : decode cL_masters 98 = .ok (.iconst 2, 1) := by decide +kernel
theorem dL_masters_99 : decode cL_masters 99 = .ok (.bipush 7, 2) := by decide +kernel
theorem dL_masters_101 : decode cL_masters 101 = .ok (.iconst 0, 1) := by decide +kernel
theorem dL_masters_102 : decode cL_masters 102 = .ok (.invokevirtual 26, 3) := by decide +kernel
theorem dL_masters_105 : decode cL_masters 105 = .ok (.iconst 3, 1) := by decide +kernel
theorem dL_masters_106 : decode cL_masters 106 = .ok (.if_icmp .ne 176, 3) := by decide +kernel
theorem dL_masters_109 : decode cL_masters 109 = .ok (.aload_n 0, 1) := by decide +kernel
theorem dL_masters_110 : decode cL_masters 110 = .ok (.iconst 0, 1) := by decide +kernel
theorem dL_masters_111 : decode cL_masters 111 = .ok (.invokevirtual 48, 3) := by decide +kernel
theorem dL_masters_114 : decode cL_masters 114 = .ok (.iconst 4, 1) := by decide +kernel
theorem dL_masters_115 : decode cL_masters 115 = .ok (.if_icmp .ne 167, 3) := by decide +kernel
theorem dL_masters_118 : decode cL_masters 118 = .ok (.aload_n 0, 1) := by decide +kernel
theorem dL_masters_119 : decode cL_masters 119 = .ok (.iconst 1, 1) := by decide +kernel
theorem dL_masters_120 : decode cL_masters 120 = .ok (.invokevirtual 48, 3) := by decide +kernel
theorem dL_masters_123 : decode cL_masters 123 = .ok (.iconst 2, 1) := by decide +kernel
theorem dL_masters_124 : decode cL_masters 124 = .ok (.if_icmp .ne 158, 3) := by decide +kernel
theorem dL_masters_127 : decode cL_masters 127 = .ok (.aload_n 0, 1) := by decide +kernel
theorem dL_masters_128 : decode cL_masters 128 = .ok (.invokevirtual 87, 3) := by decide +kernel
theorem dL_masters_131 : decode cL_masters 131 = .ok (.ifCond .ne 151, 3) := by decide +kernel
theorem dL_masters_134 : decode cL_masters 134 = .ok (.aload_n 0, 1) := by decide +kernel
theorem dL_masters_135 : decode cL_masters 135 = .ok (.iconst 0, 1) := by decide +kernel
theorem dL_masters_136 : decode cL_masters 136 = .ok (.iconst 0, 1) := by decide +kernel
theorem dL_masters_137 : decode cL_masters 137 = .ok (.iconst 0, 1) := by decide +kernel
theorem dL_masters_138 : decode cL_masters 138 = .ok (.bipush 55, 2) := by decide +kernel
theorem dL_masters_140 : decode cL_masters 140 = .ok (.iconst 0, 1) := by decide +kernel
theorem dL_masters_141 : decode cL_masters 141 = .ok (.invokestatic 98, 3) := by decide +kernel
theorem dL_masters_144 : decode cL_masters 144 = .ok (.bipush (-73), 2) := by decide +kernel
theorem dL_masters_146 : decode cL_masters 146 = .ok (.if_icmp .ne 136, 3) := by decide +kernel
theorem dL_masters_149 : decode cL_masters 149 = .ok (.aload_n 0, 1) := by decide +kernel
theorem dL_masters_150 : decode cL_masters 150 = .ok (.iconst 0, 1) := by decide +kernel
theorem dL_masters_151 : decode cL_masters 151 = .ok (.iconst 0, 1) := by decide +kernel
theorem dL_masters_152 : decode cL_masters 152 = .ok (.iconst 0, 1) := by decide +kernel
theorem dL_masters_153 : decode cL_masters 153 = .ok (.bipush 49, 2) := by decide +kernel
theorem dL_masters_155 : decode cL_masters 155 = .ok (.iconst 0, 1) := by decide +kernel
theorem dL_masters_156 : decode cL_masters 156 = .ok (.invokestatic 98, 3) := by decide +kernel
theorem dL_masters_159 : decode cL_masters 159 = .ok (.bipush (-73), 2) := by decide +kernel
theorem dL_masters_161 : decode cL_masters 161 = .ok (.if_icmp .ne 121, 3) := by decide +kernel
theorem dL_masters_164 : decode cL_masters 164 = .ok (.aload_n 0, 1) := by decide +kernel
theorem dL_masters_165 : decode cL_masters 165 = .ok (.iconst 0, 1) := by decide +kernel
theorem dL_masters_166 : decode cL_masters 166 = .ok (.iconst 0, 1) := by decide +kernel
theorem dL_masters_167 : decode cL_masters 167 = .ok (.bipush 55, 2) := by decide +kernel
theorem dL_masters_169 : decode cL_masters 169 = .ok (.invokevirtual 67, 3) := by decide +kernel
theorem dL_masters_172 : decode cL_masters 172 = .ok (.iconst 2, 1) := by decide +kernel
theorem dL_masters_173 : decode cL_masters 173 = .ok (.if_icmp .ne 109, 3) := by decide +kernel
theorem dL_masters_176 : decode cL_masters 176 = .ok (.aload_n 0, 1) := by decide +kernel
theorem dL_masters_177 : decode cL_masters 177 = .ok (.iconst 0, 1) := by decide +kernel
theorem dL_masters_178 : decode cL_masters 178 = .ok (.iconst 2, 1) := by decide +kernel
theorem dL_masters_179 : decode cL_masters 179 = .ok (.bipush 57, 2) := by decide +kernel
theorem dL_masters_181 : decode cL_masters 181 = .ok (.invokevirtual 67, 3) := by decide +kernel
theorem dL_masters_184 : decode cL_masters 184 = .ok (.iconst 3, 1) := by decide +kernel
theorem dL_masters_185 : decode cL_masters 185 = .ok (.if_icmp .ne 97, 3) := by decide +kernel
theorem dL_masters_188 : decode cL_masters 188 = .ok (.aload_n 0, 1) := by decide +kernel
theorem dL_masters_189 : decode cL_masters 189 = .ok (.iconst 0, 1) := by decide +kernel
theorem dL_masters_190 : decode cL_masters 190 = .ok (.iconst 3, 1) := by decide +kernel
theorem dL_masters_191 : decode cL_masters 191 = .ok (.iconst 0, 1) := by decide +kernel
theorem dL_masters_192 : decode cL_masters 192 = .ok (.invokevirtual 67, 3) := by decide +kernel
theorem dL_masters_195 : decode cL_masters 195 = .ok (.iconst (-1), 1) := by decide +kernel
theorem dL_masters_196 : decode cL_masters 196 = .ok (.if_icmp .ne 86, 3) := by decide +kernel
theorem dL_masters_199 : decode cL_masters 199 = .ok (.aload_n 0, 1) := by decide +kernel
theorem dL_masters_200 : decode cL_masters 200 = .ok (.iconst 1, 1) := by decide +kernel
theorem dL_masters_201 : decode cL_masters 201 = .ok (.iconst 1, 1) := by decide +kernel
theorem dL_masters_202 : decode cL_masters 202 = .ok (.invokevirtual 40, 3) := by decide +kernel
theorem dL_masters_205 : decode cL_masters 205 = .ok (.ifCond .eq 77, 3) := by decide +kernel
theorem dL_masters_208 : decode cL_masters 208 = .ok (.aload_n 0, 1) := by decide +kernel
theorem dL_masters_209 : decode cL_masters 209 = .ok (.iconst 1, 1) := by decide +kernel
theorem dL_masters_210 : decode cL_masters 210 = .ok (.iconst 3, 1) := by decide +kernel
theorem dL_masters_211 : decode cL_masters 211 = .ok (.iconst 1, 1) := by decide +kernel
theorem dL_masters_212 : decode cL_masters 212 = .ok (.bipush 7, 2) := by decide +kernel
theorem dL_masters_214 : decode cL_masters 214 = .ok (.invokestatic 112, 3) := by decide +kernel
theorem dL_masters_217 : decode cL_masters 217 = .ok (.ifCond .eq 65, 3) := by decide +kernel
theorem dL_masters_220 : decode cL_masters 220 = .ok (.aload_n 0, 1) := by decide +kernel
theorem dL_masters_221 : decode cL_masters 221 = .ok (.invokevirtual 87, 3) := by decide +kernel
theorem dL_masters_224 : decode cL_masters 224 = .ok (.ifCond .ne 58, 3) := by decide +kernel
theorem dL_masters_227 : decode cL_masters 227 = .ok (.aload_n 0, 1) := by decide +kernel
theorem dL_masters_228 : decode cL_masters 228 = .ok (.iconst 0, 1) := by decide +kernel
theorem dL_masters_229 : decode cL_masters 229 = .ok (.iconst 1, 1) := by decide +kernel
theorem dL_masters_230 : decode cL_masters 230 = .ok (.invokevirtual 40, 3) := by decide +kernel
theorem dL_masters_233 : decode cL_masters 233 = .ok (.ifCond .eq 49, 3) := by decide +kernel
theorem dL_masters_236 : decode cL_masters 236 = .ok (.aload_n 0, 1) := by decide +kernel
theorem dL_masters_237 : decode cL_masters 237 = .ok (.iconst 1, 1) := by decide +kernel
theorem dL_masters_238 : decode cL_masters 238 = .ok (.iconst 3, 1) := by decide +kernel
theorem dL_masters_239 : decode cL_masters 239 = .ok (.iconst 2, 1) := by decide +kernel
theorem dL_masters_240 : decode cL_masters 240 = .ok (.bipush 7, 2) := by decide +kernel
theorem dL_masters_242 : decode cL_masters 242 = .ok (.invokestatic 112, 3) := by decide +kernel
theorem dL_masters_245 : decode cL_masters 245 = .ok (.ifCond .eq 37, 3) := by decide +kernel
theorem dL_masters_248 : decode cL_masters 248 = .ok (.aload_n 0, 1) := by decide +kernel
theorem dL_masters_249 : decode cL_masters 249 = .ok (.invokevirtual 87, 3) := by decide +kernel
theorem dL_masters_252 : decode cL_masters 252 = .ok (.ifCond .eq 30, 3) := by decide +kernel
theorem dL_masters_255 : decode cL_masters 255 = .ok (.aload_n 0, 1) := by decide +kernel
theorem dL_masters_256 : decode cL_masters 256 = .ok (.iconst 0, 1) := by decide +kernel
theorem dL_masters_257 : decode cL_masters 257 = .ok (.iconst 1, 1) := by decide +kernel
theorem dL_masters_258 : decode cL_masters 258 = .ok (.invokevirtual 40, 3) := by decide +kernel
theorem dL_masters_261 : decode cL_masters 261 = .ok (.ifCond .ne 21, 3) := by decide +kernel
theorem dL_masters_264 : decode cL_masters 264 = .ok (.aload_n 0, 1) := by decide +kernel
theorem dL_masters_265 : decode cL_masters 265 = .ok (.iconst 0, 1) := by decide +kernel
theorem dL_masters_266 : decode cL_masters 266 = .ok (.iconst 0, 1) := by decide +kernel
theorem dL_masters_267 : decode cL_masters 267 = .ok (.invokevirtual 40, 3) := by decide +kernel
theorem dL_masters_270 : decode cL_masters 270 = .ok (.ifCond .ne 12, 3) := by decide +kernel
theorem dL_masters_273 : decode cL_masters 273 = .ok (.aload_n 0, 1) := by decide +kernel
theorem dL_masters_274 : decode cL_masters 274 = .ok (.iconst 0, 1) := by decide +kernel
theorem dL_masters_275 : decode cL_masters 275 = .ok (.iconst 4, 1) := by decide +kernel
theorem dL_masters_276 : decode cL_masters 276 = .ok (.invokestatic 116, 3) := by decide +kernel
theorem dL_masters_279 : decode cL_masters 279 = .ok (.ifCond .ne 5, 3) := by decide +kernel
theorem dL_masters_282 : decode cL_masters 282 = .ok (.iconst 0, 1) := by decide +kernel
theorem dL_masters_283 : decode cL_masters 283 = .ok (.ireturn, 1) := by decide +kernel
theorem dL_masters_284 : decode cL_masters 284 = .ok (.aload_n 0, 1) := by decide +kernel
theorem dL_masters_285 : decode cL_masters 285 = .ok (.iconst 0, 1) := by decide +kernel
theorem dL_masters_286 : decode cL_masters 286 = .ok (.iconst 0, 1) := by decide +kernel
theorem dL_masters_287 : decode cL_masters 287 = .ok (.bipush 10, 2) := by decide +kernel
theorem dL_masters_289 : decode cL_masters 289 = .ok (.iconst 0, 1) := by decide +kernel
theorem dL_masters_290 : decode cL_masters 290 = .ok (.invokevirtual 26, 3) := by decide +kernel
theorem dL_masters_293 : decode cL_masters 293 = .ok (.iconst 4, 1) := by decide +kernel
theorem dL_masters_294 : decode cL_masters 294 = .ok (.if_icmp .ne 217, 3) := by decide +kernel
theorem dL_masters_297 : decode cL_masters 297 = .ok (.aload_n 0, 1) := by decide +kernel
theorem dL_masters_298 : decode cL_masters 298 = .ok (.iconst 1, 1) := by decide +kernel
theorem dL_masters_299 : decode cL_masters 299 = .ok (.iconst 0, 1) := by decide +kernel
theorem dL_masters_300 : decode cL_masters 300 = .ok (.bipush 60, 2) := by decide +kernel
theorem dL_masters_302 : decode cL_masters 302 = .ok (.iconst 0, 1) := by decide +kernel
theorem dL_masters_303 : decode cL_masters 303 = .ok (.invokevirtual 26, 3) := by decide +kernel
theorem dL_masters_306 : decode cL_masters 306 = .ok (.iconst 5, 1) := by decide +kernel
theorem dL_masters_307 : decode cL_masters 307 = .ok (.if_icmp .ne 204, 3) := by decide +kernel
theorem dL_masters_310 : decode cL_masters 310 = .ok (.aload_n 0, 1) := by decide +kernel
theorem dL_masters_311 : decode cL_masters 311 = .ok (.iconst 2, 1) := by decide +kernel
theorem dL_masters_312 : decode cL_masters 312 = .ok (.invokevirtual 44, 3) := by decide +kernel
