theorem dL_refuses_0 : decode cL_refuses 0 = .ok (.aload_n 0, 1) := by decide +kernel
theorem dL_refuses_1 : decode cL_refuses 1 = .ok (.invokevirtual 83, 3) := by decide +kernel
theorem dL_refuses_4 : decode cL_refuses 4 = .ok (.istore_n 3, 1) := by decide +kernel
theorem dL_refuses_5 : decode cL_refuses 5 = .ok (.aload_n 0, 1) := by decide +kernel
theorem dL_refuses_6 : decode cL_refuses 6 = .ok (.iconst 0, 1) := by decide +kernel
theorem dL_refuses_7 : decode cL_refuses 7 = .ok (.invokevirtual 48, 3) := by decide +kernel
theorem dL_refuses_10 : decode cL_refuses 10 = .ok (.istore 4, 2) := by decide +kernel
theorem dL_refuses_12 : decode cL_refuses 12 = .ok (.aload_n 0, 1) := by decide +kernel
theorem dL_refuses_13 : decode cL_refuses 13 = .ok (.iconst 1, 1) := by decide +kernel
theorem dL_refuses_14 : decode cL_refuses 14 = .ok (.invokevirtual 48, 3) := by decide +kernel
theorem dL_refuses_17 : decode cL_refuses 17 = .ok (.istore 5, 2) := by decide +kernel
theorem dL_refuses_19 : decode cL_refuses 19 = .ok (.aload_n 0, 1) := by decide +kernel
theorem dL_refuses_20 : decode cL_refuses 20 = .ok (.invokevirtual 87, 3) := by decide +kernel
theorem dL_refuses_23 : decode cL_refuses 23 = .ok (.istore 6, 2) := by decide +kernel
theorem dL_refuses_25 : decode cL_refuses 25 = .ok (.ldc 91, 2) := by decide +kernel
theorem dL_refuses_27 : decode cL_refuses 27 = .ok (.istore 7, 2) := by decide +kernel
theorem dL_refuses_29 : decode cL_refuses 29 = .ok (.iconst 0, 1) := by decide +kernel
theorem dL_refuses_30 : decode cL_refuses 30 = .ok (.istore 8, 2) := by decide +kernel
theorem dL_refuses_32 : decode cL_refuses 32 = .ok (.iload 8, 2) := by decide +kernel
theorem dL_refuses_34 : decode cL_refuses 34 = .ok (.iconst 4, 1) := by decide +kernel
theorem dL_refuses_35 : decode cL_refuses 35 = .ok (.if_icmp .ge 1083, 3) := by decide +kernel
theorem dL_refuses_38 : decode cL_refuses 38 = .ok (.iload 8, 2) := by decide +kernel
theorem dL_refuses_40 : decode cL_refuses 40 = .ok (.ifCond .ne 7, 3) := by decide +kernel
theorem dL_refuses_43 : decode cL_refuses 43 = .ok (.iconst (-1), 1) := by decide +kernel
theorem dL_refuses_44 : decode cL_refuses 44 = .ok (.goto 19, 3) := by decide +kernel
theorem dL_refuses_47 : decode cL_refuses 47 = .ok (.iload 8, 2) := by decide +kernel
theorem dL_refuses_49 : decode cL_refuses 49 = .ok (.iconst 2, 1) := by decide +kernel
theorem dL_refuses_50 : decode cL_refuses 50 = .ok (.if_icmp .ne 8, 3) := by decide +kernel
theorem dL_refuses_53 : decode cL_refuses 53 = .ok (.iload 7, 2) := by decide +kernel
theorem dL_refuses_55 : decode cL_refuses 55 = .ok (.goto 8, 3) := by decide +kernel
theorem dL_refuses_58 : decode cL_refuses 58 = .ok (.iload 7, 2) := by decide +kernel
theorem dL_refuses_60 : decode cL_refuses 60 = .ok (.ineg, 1) := by decide +kernel
theorem dL_refuses_61 : decode cL_refuses 61 = .ok (.iconst 1, 1) := by decide +kernel
theorem dL_refuses_62 : decode cL_refuses 62 = .ok (.isub, 1) := by decide +kernel
theorem dL_refuses_63 : decode cL_refuses 63 = .ok (.istore 9, 2) := by decide +kernel
theorem dL_refuses_65 : decode cL_refuses 65 = .ok (.iload 8, 2) := by decide +kernel
theorem dL_refuses_67 : decode cL_refuses 67 = .ok (.ifCond .ne 8, 3) := by decide +kernel
theorem dL_refuses_70 : decode cL_refuses 70 = .ok (.bipush (-2), 2) := by decide +kernel
theorem dL_refuses_72 : decode cL_refuses 72 = .ok (.goto 5, 3) := by decide +kernel
theorem dL_refuses_75 : decode cL_refuses 75 = .ok (.iload 9, 2) := by decide +kernel
theorem dL_refuses_77 : decode cL_refuses 77 = .ok (.istore 10, 2) := by decide +kernel
theorem dL_refuses_79 : decode cL_refuses 79 = .ok (.iload 8, 2) := by decide +kernel
theorem dL_refuses_81 : decode cL_refuses 81 = .ok (.iconst 1, 1) := by decide +kernel
theorem dL_refuses_82 : decode cL_refuses 82 = .ok (.if_icmp .ne 7, 3) := by decide +kernel
theorem dL_refuses_85 : decode cL_refuses 85 = .ok (.iconst 2, 1) := by decide +kernel
theorem dL_refuses_86 : decode cL_refuses 86 = .ok (.goto 5, 3) := by decide +kernel
theorem dL_refuses_89 : decode cL_refuses 89 = .ok (.iload 9, 2) := by decide +kernel
theorem dL_refuses_91 : decode cL_refuses 91 = .ok (.istore 11, 2) := by decide +kernel
theorem dL_refuses_93 : decode cL_refuses 93 = .ok (.iload 8, 2) := by decide +kernel
theorem dL_refuses_95 : decode cL_refuses 95 = .ok (.iconst 1, 1) := by decide +kernel
theorem dL_refuses_96 : decode cL_refuses 96 = .ok (.if_icmp .ne 7, 3) := by decide +kernel
theorem dL_refuses_99 : decode cL_refuses 99 = .ok (.iload_n 2, 1) := by decide +kernel
theorem dL_refuses_100 : decode cL_refuses 100 = .ok (.goto 5, 3) := by decide +kernel
theorem dL_refuses_103 : decode cL_refuses 103 = .ok (.iload 9, 2) := by decide +kernel
theorem dL_refuses_105 : decode cL_refuses 105 = .ok (.istore 12, 2) := by decide +kernel
theorem dL_refuses_107 : decode cL_refuses 107 = .ok (.iload 8, 2) := by decide +kernel
theorem dL_refuses_109 : decode cL_refuses 109 = .ok (.iconst 1, 1) := by decide +kernel
theorem dL_refuses_110 : decode cL_refuses 110 = .ok (.if_icmp .ne 7, 3) := by decide +kernel
theorem dL_refuses_113 : decode cL_refuses 113 = .ok (.iconst 3, 1) := by decide +kernel
theorem dL_refuses_114 : decode cL_refuses 114 = .ok (.goto 5, 3) := by decide +kernel
theorem dL_refuses_117 : decode cL_refuses 117 = .ok (.iload 9, 2) := by decide +kernel
theorem dL_refuses_119 : decode cL_refuses 119 = .ok (.istore 13, 2) := by decide +kernel
theorem dL_refuses_121 : decode cL_refuses 121 = .ok (.iload 8, 2) := by decide +kernel
theorem dL_refuses_123 : decode cL_refuses 123 = .ok (.iconst 1, 1) := by decide +kernel
theorem dL_refuses_124 : decode cL_refuses 124 = .ok (.if_icmp .ne 7, 3) := by decide +kernel
theorem dL_refuses_127 : decode cL_refuses 127 = .ok (.iconst 4, 1) := by decide +kernel
theorem dL_refuses_128 : decode cL_refuses 128 = .ok (.goto 5, 3) := by decide +kernel
theorem dL_refuses_131 : decode cL_refuses 131 = .ok (.iload 9, 2) := by decide +kernel
theorem dL_refuses_133 : decode cL_refuses 133 = .ok (.istore 14, 2) := by decide +kernel
theorem dL_refuses_135 : decode cL_refuses 135 = .ok (.iload 8, 2) := by decide +kernel
theorem dL_refuses_137 : decode cL_refuses 137 = .ok (.iconst 1, 1) := by decide +kernel
theorem dL_refuses_138 : decode cL_refuses 138 = .ok (.if_icmp .ne 8, 3) := by decide +kernel
theorem dL_refuses_141 : decode cL_refuses 141 = .ok (.bipush 100, 2) := by decide +kernel
theorem dL_refuses_143 : decode cL_refuses 143 = .ok (.goto 5, 3) := by decide +kernel
theorem dL_refuses_146 : decode cL_refuses 146 = .ok (.iload 9, 2) := by decide +kernel
theorem dL_refuses_148 : decode cL_refuses 148 = .ok (.istore 15, 2) := by decide +kernel
theorem dL_refuses_150 : decode cL_refuses 150 = .ok (.iload 8, 2) := by decide +kernel
theorem dL_refuses_152 : decode cL_refuses 152 = .ok (.iconst 1, 1) := by decide +kernel
theorem dL_refuses_153 : decode cL_refuses 153 = .ok (.if_icmp .ne 8, 3) := by decide +kernel
theorem dL_refuses_156 : decode cL_refuses 156 = .ok (.bipush 16, 2) := by decide +kernel
theorem dL_refuses_158 : decode cL_refuses 158 = .ok (.goto 5, 3) := by decide +kernel
theorem dL_refuses_161 : decode cL_refuses 161 = .ok (.iload 9, 2) := by decide +kernel
theorem dL_refuses_163 : decode cL_refuses 163 = .ok (.istore 16, 2) := by decide +kernel
theorem dL_refuses_165 : decode cL_refuses 165 = .ok (.iload 8, 2) := by decide +kernel
theorem dL_refuses_167 : decode cL_refuses 167 = .ok (.iconst 1, 1) := by decide +kernel
theorem dL_refuses_168 : decode cL_refuses 168 = .ok (.if_icmp .ne 8, 3) := by decide +kernel
theorem dL_refuses_171 : decode cL_refuses 171 = .ok (.bipush 10, 2) := by decide +kernel
theorem dL_refuses_173 : decode cL_refuses 173 = .ok (.goto 5, 3) := by decide +kernel
theorem dL_refuses_176 : decode cL_refuses 176 = .ok (.iload 9, 2) := by decide +kernel
theorem dL_refuses_178 : decode cL_refuses 178 = .ok (.istore 17, 2) := by decide +kernel
theorem dL_refuses_180 : decode cL_refuses 180 = .ok (.iload 8, 2) := by decide +kernel
theorem dL_refuses_182 : decode cL_refuses 182 = .ok (.iconst 1, 1) := by decide +kernel
theorem dL_refuses_183 : decode cL_refuses 183 = .ok (.if_icmp .ne 7, 3) := by decide +kernel
theorem dL_refuses_186 : decode cL_refuses 186 = .ok (.iload_n 1, 1) := by decide +kernel
theorem dL_refuses_187 : decode cL_refuses 187 = .ok (.goto 5, 3) := by decide +kernel
theorem dL_refuses_190 : decode cL_refuses 190 = .ok (.iload 9, 2) := by decide +kernel
theorem dL_refuses_192 : decode cL_refuses 192 = .ok (.istore 18, 2) := by decide +kernel
theorem dL_refuses_194 : decode cL_refuses 194 = .ok (.aload_n 0, 1) := by decide +kernel
theorem dL_refuses_195 : decode cL_refuses 195 = .ok (.iload 13, 2) := by decide +kernel
theorem dL_refuses_197 : decode cL_refuses 197 = .ok (.iconst (-1), 1) := by decide +kernel
theorem dL_refuses_198 : decode cL_refuses 198 = .ok (.iconst 0, 1) := by decide +kernel
theorem dL_refuses_199 : decode cL_refuses 199 = .ok (.invokestatic 92, 3) := by decide +kernel
theorem dL_refuses_202 : decode cL_refuses 202 = .ok (.bipush (-71), 2) := by decide +kernel
theorem dL_refuses_204 : decode cL_refuses 204 = .ok (.if_icmp .ne 291, 3) := by decide +kernel
theorem dL_refuses_207 : decode cL_refuses 207 = .ok (.aload_n 0, 1) := by decide +kernel
theorem dL_refuses_208 : decode cL_refuses 208 = .ok (.iconst 0, 1) := by decide +kernel
theorem dL_refuses_209 : decode cL_refuses 209 = .ok (.iload 16, 2) := by decide +kernel
theorem dL_refuses_211 : decode cL_refuses 211 = .ok (.iconst 0, 1) := by decide +kernel
theorem dL_refuses_212 : decode cL_refuses 212 = .ok (.invokestatic 92, 3) := by decide +kernel
theorem dL_refuses_215 : decode cL_refuses 215 = .ok (.bipush (-72), 2) := by decide +kernel
theorem dL_refuses_217 : decode cL_refuses 217 = .ok (.if_icmp .ne 278, 3) := by decide +kernel
theorem dL_refuses_220 : decode cL_refuses 220 = .ok (.aload_n 0, 1) := by decide +kernel
theorem dL_refuses_221 : decode cL_refuses 221 = .ok (.iconst 0, 1) := by decide +kernel
theorem dL_refuses_222 : decode cL_refuses 222 = .ok (.iconst 0, 1) := by decide +kernel
theorem dL_refuses_223 : decode cL_refuses 223 = .ok (.iload 16, 2) := by decide +kernel
theorem dL_refuses_225 : decode cL_refuses 225 = .ok (.invokestatic 92, 3) := by decide +kernel
theorem dL_refuses_228 : decode cL_refuses 228 = .ok (.bipush (-72), 2) := by decide +kernel
theorem dL_refuses_230 : decode cL_refuses 230 = .ok (.if_icmp .ne 265, 3) := by decide +kernel
theorem dL_refuses_233 : decode cL_refuses 233 = .ok (.aload_n 0, 1) := by decide +kernel
theorem dL_refuses_234 : decode cL_refuses 234 = .ok (.iconst 0, 1) := by decide +kernel
theorem dL_refuses_235 : decode cL_refuses 235 = .ok (.iload 11, 2) := by decide +kernel
theorem dL_refuses_237 : decode cL_refuses 237 = .ok (.iconst 0, 1) := by decide +kernel
theorem dL_refuses_238 : decode cL_refuses 238 = .ok (.iconst (-1), 1) := by decide +kernel
theorem dL_refuses_239 : decode cL_refuses 239 = .ok (.iconst 0, 1) := by decide +kernel
theorem dL_refuses_240 : decode cL_refuses 240 = .ok (.invokestatic 98, 3) := by decide +kernel
theorem dL_refuses_243 : decode cL_refuses 243 = .ok (.bipush (-71), 2) := by decide +kernel
theorem dL_refuses_245 : decode cL_refuses 245 = .ok (.if_icmp .ne 250, 3) := by decide +kernel
theorem dL_refuses_248 : decode cL_refuses 248 = .ok (.aload_n 0, 1) := by decide +kernel
theorem dL_refuses_249 : decode cL_refuses 249 = .ok (.iconst 0, 1) := by decide +kernel
theorem dL_refuses_250 : decode cL_refuses 250 = .ok (.iconst 0, 1) := by decide +kernel
theorem dL_refuses_251 : decode cL_refuses 251 = .ok (.iload 12, 2) := by decide +kernel
theorem dL_refuses_253 : decode cL_refuses 253 = .ok (.iconst (-1), 1) := by decide +kernel
theorem dL_refuses_254 : decode cL_refuses 254 = .ok (.iconst 0, 1) := by decide +kernel
theorem dL_refuses_255 : decode cL_refuses 255 = .ok (.invokestatic 98, 3) := by decide +kernel
theorem dL_refuses_258 : decode cL_refuses 258 = .ok (.bipush (-71), 2) := by decide +kernel
theorem dL_refuses_260 : decode cL_refuses 260 = .ok (.if_icmp .ne 235, 3) := by decide +kernel
theorem dL_refuses_263 : decode cL_refuses 263 = .ok (.aload_n 0, 1) := by decide +kernel
theorem dL_refuses_264 : decode cL_refuses 264 = .ok (.iconst 0, 1) := by decide +kernel
theorem dL_refuses_265 : decode cL_refuses 265 = .ok (.iconst 0, 1) := by decide +kernel
theorem dL_refuses_266 : decode cL_refuses 266 = .ok (.iconst 0, 1) := by decide +kernel
theorem dL_refuses_267 : decode cL_refuses 267 = .ok (.iconst (-1), 1) := by decide +kernel
theorem dL_refuses_268 : decode cL_refuses 268 = .ok (.iload 13, 2) := by decide +kernel
theorem dL_refuses_270 : decode cL_refuses 270 = .ok (.invokestatic 98, 3) := by decide +kernel
theorem dL_refuses_273 : decode cL_refuses 273 = .ok (.bipush (-71), 2) := by decide +kernel
theorem dL_refuses_275 : decode cL_refuses 275 = .ok (.if_icmp .ne 220, 3) := by decide +kernel
theorem dL_refuses_278 : decode cL_refuses 278 = .ok (.aload_n 0, 1) := by decide +kernel
theorem dL_refuses_279 : decode cL_refuses 279 = .ok (.iconst 0, 1) := by decide +kernel
theorem dL_refuses_280 : decode cL_refuses 280 = .ok (.iconst 0, 1) := by decide +kernel
theorem dL_refuses_281 : decode cL_refuses 281 = .ok (.iconst 0, 1) := by decide +kernel
theorem dL_refuses_282 : decode cL_refuses 282 = .ok (.iload 15, 2) := by decide +kernel
theorem dL_refuses_284 : decode cL_refuses 284 = .ok (.iconst 0, 1) := by decide +kernel
theorem dL_refuses_285 : decode cL_refuses 285 = .ok (.invokestatic 98, 3) := by decide +kernel
theorem dL_refuses_288 : decode cL_refuses 288 = .ok (.bipush (-72), 2) := by decide +kernel
theorem dL_refuses_290 : decode cL_refuses 290 = .ok (.if_icmp .ne 205, 3) := by decide +kernel
theorem dL_refuses_293 : decode cL_refuses 293 = .ok (.aload_n 0, 1) := by decide +kernel
theorem dL_refuses_294 : decode cL_refuses 294 = .ok (.iconst 1, 1) := by decide +kernel
theorem dL_refuses_295 : decode cL_refuses 295 = .ok (.iload 11, 2) := by decide +kernel
theorem dL_refuses_297 : decode cL_refuses 297 = .ok (.iconst 0, 1) := by decide +kernel
theorem dL_refuses_298 : decode cL_refuses 298 = .ok (.iconst 0, 1) := by decide +kernel
theorem dL_refuses_299 : decode cL_refuses 299 = .ok (.bipush 99, 2) := by decide +kernel
theorem dL_refuses_301 : decode cL_refuses 301 = .ok (.invokestatic 98, 3) := by decide +kernel
theorem dL_refuses_304 : decode cL_refuses 304 = .ok (.bipush (-71), 2) := by decide +kernel
theorem dL_refuses_306 : decode cL_refuses 306 = .ok (.if_icmp .ne 189, 3) := by decide +kernel
theorem dL_refuses_309 : decode cL_refuses 309 = .ok (.aload_n 0, 1) := by decide +kernel
theorem dL_refuses_310 : decode cL_refuses 310 = .ok (.iconst 1, 1) := by decide +kernel
theorem dL_refuses_311 : decode cL_refuses 311 = .ok (.iconst 0, 1) := by decide +kernel
theorem dL_refuses_312 : decode cL_refuses 312 = .ok (.iload 12, 2) := by decide +kernel
theorem dL_refuses_314 : decode cL_refuses 314 = .ok (.iconst 0, 1) := by decide +kernel
theorem dL_refuses_315 : decode cL_refuses 315 = .ok (.bipush 99, 2) := by decide +kernel
theorem dL_refuses_317 : decode cL_refuses 317 = .ok (.invokestatic 98, 3) := by decide +kernel
theorem dL_refuses_320 : decode cL_refuses 320 = .ok (.bipush (-71), 2) := by decide +kernel
theorem dL_refuses_322 : decode cL_refuses 322 = .ok (.if_icmp .ne 173, 3) := by decide +kernel
theorem dL_refuses_325 : decode cL_refuses 325 = .ok (.aload_n 0, 1) := by decide +kernel
theorem dL_refuses_326 : decode cL_refuses 326 = .ok (.iconst 1, 1) := by decide +kernel
theorem dL_refuses_327 : decode cL_refuses 327 = .ok (.iconst 0, 1) := by decide +kernel
theorem dL_refuses_328 : decode cL_refuses 328 = .ok (.iconst 0, 1) := by decide +kernel
theorem dL_refuses_329 : decode cL_refuses 329 = .ok (.iload 14, 2) := by decide +kernel
theorem dL_refuses_331 : decode cL_refuses 331 = .ok (.bipush 99, 2) := by decide +kernel
theorem dL_refuses_333 : decode cL_refuses 333 = .ok (.invokestatic 98, 3) := by decide +kernel
theorem dL_refuses_336 : decode cL_refuses 336 = .ok (.bipush (-71), 2) := by decide +kernel
