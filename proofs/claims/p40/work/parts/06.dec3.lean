theorem dL_refuses_13 : decode cL_refuses 13 = .ok (.iconst 0, 1) := by decide +kernel
theorem dL_refuses_14 : decode cL_refuses 14 = .ok (.invokestatic 187, 3) := by decide +kernel
theorem dL_refuses_17 : decode cL_refuses 17 = .ok (.sipush (-901), 3) := by decide +kernel
theorem dL_refuses_20 : decode cL_refuses 20 = .ok (.if_icmp .ne 117, 3) := by decide +kernel
theorem dL_refuses_23 : decode cL_refuses 23 = .ok (.aload_n 0, 1) := by decide +kernel
theorem dL_refuses_24 : decode cL_refuses 24 = .ok (.bipush 64, 2) := by decide +kernel
theorem dL_refuses_26 : decode cL_refuses 26 = .ok (.iconst 0, 1) := by decide +kernel
theorem dL_refuses_27 : decode cL_refuses 27 = .ok (.invokestatic 187, 3) := by decide +kernel
theorem dL_refuses_30 : decode cL_refuses 30 = .ok (.sipush (-901), 3) := by decide +kernel
theorem dL_refuses_33 : decode cL_refuses 33 = .ok (.if_icmp .ne 104, 3) := by decide +kernel
theorem dL_refuses_36 : decode cL_refuses 36 = .ok (.aload_n 0, 1) := by decide +kernel
theorem dL_refuses_37 : decode cL_refuses 37 = .ok (.iconst 0, 1) := by decide +kernel
theorem dL_refuses_38 : decode cL_refuses 38 = .ok (.iconst (-1), 1) := by decide +kernel
theorem dL_refuses_39 : decode cL_refuses 39 = .ok (.invokestatic 187, 3) := by decide +kernel
theorem dL_refuses_42 : decode cL_refuses 42 = .ok (.sipush (-901), 3) := by decide +kernel
theorem dL_refuses_45 : decode cL_refuses 45 = .ok (.if_icmp .ne 92, 3) := by decide +kernel
theorem dL_refuses_48 : decode cL_refuses 48 = .ok (.aload_n 0, 1) := by decide +kernel
theorem dL_refuses_49 : decode cL_refuses 49 = .ok (.iload_n 3, 1) := by decide +kernel
theorem dL_refuses_50 : decode cL_refuses 50 = .ok (.iconst (-1), 1) := by decide +kernel
theorem dL_refuses_51 : decode cL_refuses 51 = .ok (.iconst 0, 1) := by decide +kernel
theorem dL_refuses_52 : decode cL_refuses 52 = .ok (.invokestatic 189, 3) := by decide +kernel
theorem dL_refuses_55 : decode cL_refuses 55 = .ok (.sipush (-903), 3) := by decide +kernel
theorem dL_refuses_58 : decode cL_refuses 58 = .ok (.if_icmp .ne 79, 3) := by decide +kernel
theorem dL_refuses_61 : decode cL_refuses 61 = .ok (.aload_n 0, 1) := by decide +kernel
theorem dL_refuses_62 : decode cL_refuses 62 = .ok (.iconst (-1), 1) := by decide +kernel
theorem dL_refuses_63 : decode cL_refuses 63 = .ok (.invokestatic 191, 3) := by decide +kernel
theorem dL_refuses_66 : decode cL_refuses 66 = .ok (.sipush (-903), 3) := by decide +kernel
theorem dL_refuses_69 : decode cL_refuses 69 = .ok (.if_icmp .ne 68, 3) := by decide +kernel
theorem dL_refuses_72 : decode cL_refuses 72 = .ok (.aload_n 0, 1) := by decide +kernel
theorem dL_refuses_73 : decode cL_refuses 73 = .ok (.bipush (-64), 2) := by decide +kernel
theorem dL_refuses_75 : decode cL_refuses 75 = .ok (.invokestatic 193, 3) := by decide +kernel
theorem dL_refuses_78 : decode cL_refuses 78 = .ok (.sipush (-901), 3) := by decide +kernel
theorem dL_refuses_81 : decode cL_refuses 81 = .ok (.if_icmp .ne 56, 3) := by decide +kernel
theorem dL_refuses_84 : decode cL_refuses 84 = .ok (.aload_n 0, 1) := by decide +kernel
theorem dL_refuses_85 : decode cL_refuses 85 = .ok (.iconst (-1), 1) := by decide +kernel
theorem dL_refuses_86 : decode cL_refuses 86 = .ok (.iconst 0, 1) := by decide +kernel
theorem dL_refuses_87 : decode cL_refuses 87 = .ok (.iconst 0, 1) := by decide +kernel
theorem dL_refuses_88 : decode cL_refuses 88 = .ok (.invokestatic 159, 3) := by decide +kernel
theorem dL_refuses_91 : decode cL_refuses 91 = .ok (.sipush (-901), 3) := by decide +kernel
theorem dL_refuses_94 : decode cL_refuses 94 = .ok (.if_icmp .ne 43, 3) := by decide +kernel
theorem dL_refuses_97 : decode cL_refuses 97 = .ok (.aload_n 0, 1) := by decide +kernel
theorem dL_refuses_98 : decode cL_refuses 98 = .ok (.iconst 0, 1) := by decide +kernel
theorem dL_refuses_99 : decode cL_refuses 99 = .ok (.bipush 11, 2) := by decide +kernel
theorem dL_refuses_101 : decode cL_refuses 101 = .ok (.invokestatic 162, 3) := by decide +kernel
theorem dL_refuses_104 : decode cL_refuses 104 = .ok (.sipush (-901), 3) := by decide +kernel
theorem dL_refuses_107 : decode cL_refuses 107 = .ok (.if_icmp .ne 30, 3) := by decide +kernel
theorem dL_refuses_110 : decode cL_refuses 110 = .ok (.aload_n 0, 1) := by decide +kernel
theorem dL_refuses_111 : decode cL_refuses 111 = .ok (.iconst (-1), 1) := by decide +kernel
theorem dL_refuses_112 : decode cL_refuses 112 = .ok (.invokestatic 101, 3) := by decide +kernel
theorem dL_refuses_115 : decode cL_refuses 115 = .ok (.sipush (-901), 3) := by decide +kernel
theorem dL_refuses_118 : decode cL_refuses 118 = .ok (.if_icmp .ne 19, 3) := by decide +kernel
theorem dL_refuses_121 : decode cL_refuses 121 = .ok (.aload_n 0, 1) := by decide +kernel
theorem dL_refuses_122 : decode cL_refuses 122 = .ok (.iload_n 3, 1) := by decide +kernel
theorem dL_refuses_123 : decode cL_refuses 123 = .ok (.iconst 1, 1) := by decide +kernel
theorem dL_refuses_124 : decode cL_refuses 124 = .ok (.invokestatic 117, 3) := by decide +kernel
theorem dL_refuses_127 : decode cL_refuses 127 = .ok (.sipush (-903), 3) := by decide +kernel
theorem dL_refuses_130 : decode cL_refuses 130 = .ok (.if_icmp .ne 7, 3) := by decide +kernel
theorem dL_refuses_133 : decode cL_refuses 133 = .ok (.iconst 1, 1) := by decide +kernel
theorem dL_refuses_134 : decode cL_refuses 134 = .ok (.goto 4, 3) := by decide +kernel
theorem dL_refuses_137 : decode cL_refuses 137 = .ok (.iconst 0, 1) := by decide +kernel
theorem dL_refuses_138 : decode cL_refuses 138 = .ok (.istore 4, 2) := by decide +kernel
theorem dL_refuses_140 : decode cL_refuses 140 = .ok (.iload 4, 2) := by decide +kernel
theorem dL_refuses_142 : decode cL_refuses 142 = .ok (.ifCond .eq 143, 3) := by decide +kernel
theorem dL_refuses_145 : decode cL_refuses 145 = .ok (.aload_n 0, 1) := by decide +kernel
theorem dL_refuses_146 : decode cL_refuses 146 = .ok (.iconst 1, 1) := by decide +kernel
theorem dL_refuses_147 : decode cL_refuses 147 = .ok (.iload_n 3, 1) := by decide +kernel
theorem dL_refuses_148 : decode cL_refuses 148 = .ok (.ishl, 1) := by decide +kernel
theorem dL_refuses_149 : decode cL_refuses 149 = .ok (.invokestatic 106, 3) := by decide +kernel
theorem dL_refuses_152 : decode cL_refuses 152 = .ok (.ldc2_w 52, 3) := by decide +kernel
theorem dL_refuses_155 : decode cL_refuses 155 = .ok (.lcmp, 1) := by decide +kernel
theorem dL_refuses_156 : decode cL_refuses 156 = .ok (.ifCond .ne 129, 3) := by decide +kernel
theorem dL_refuses_159 : decode cL_refuses 159 = .ok (.aload_n 0, 1) := by decide +kernel
theorem dL_refuses_160 : decode cL_refuses 160 = .ok (.iconst (-1), 1) := by decide +kernel
theorem dL_refuses_161 : decode cL_refuses 161 = .ok (.invokestatic 109, 3) := by decide +kernel
theorem dL_refuses_164 : decode cL_refuses 164 = .ok (.sipush (-903), 3) := by decide +kernel
theorem dL_refuses_167 : decode cL_refuses 167 = .ok (.if_icmp .ne 118, 3) := by decide +kernel
theorem dL_refuses_170 : decode cL_refuses 170 = .ok (.aload_n 0, 1) := by decide +kernel
theorem dL_refuses_171 : decode cL_refuses 171 = .ok (.iconst 0, 1) := by decide +kernel
theorem dL_refuses_172 : decode cL_refuses 172 = .ok (.invokestatic 150, 3) := by decide +kernel
theorem dL_refuses_175 : decode cL_refuses 175 = .ok (.sipush (-901), 3) := by decide +kernel
theorem dL_refuses_178 : decode cL_refuses 178 = .ok (.if_icmp .ne 107, 3) := by decide +kernel
theorem dL_refuses_181 : decode cL_refuses 181 = .ok (.aload_n 0, 1) := by decide +kernel
theorem dL_refuses_182 : decode cL_refuses 182 = .ok (.bipush 7, 2) := by decide +kernel
theorem dL_refuses_184 : decode cL_refuses 184 = .ok (.invokestatic 152, 3) := by decide +kernel
theorem dL_refuses_187 : decode cL_refuses 187 = .ok (.ldc2_w 52, 3) := by decide +kernel
theorem dL_refuses_190 : decode cL_refuses 190 = .ok (.lcmp, 1) := by decide +kernel
theorem dL_refuses_191 : decode cL_refuses 191 = .ok (.ifCond .ne 94, 3) := by decide +kernel
theorem dL_refuses_194 : decode cL_refuses 194 = .ok (.aload_n 0, 1) := by decide +kernel
theorem dL_refuses_195 : decode cL_refuses 195 = .ok (.iconst 0, 1) := by decide +kernel
theorem dL_refuses_196 : decode cL_refuses 196 = .ok (.iconst 0, 1) := by decide +kernel
theorem dL_refuses_197 : decode cL_refuses 197 = .ok (.invokestatic 154, 3) := by decide +kernel
theorem dL_refuses_200 : decode cL_refuses 200 = .ok (.sipush (-901), 3) := by decide +kernel
theorem dL_refuses_203 : decode cL_refuses 203 = .ok (.if_icmp .ne 82, 3) := by decide +kernel
theorem dL_refuses_206 : decode cL_refuses 206 = .ok (.aload_n 0, 1) := by decide +kernel
theorem dL_refuses_207 : decode cL_refuses 207 = .ok (.bipush 61, 2) := by decide +kernel
theorem dL_refuses_209 : decode cL_refuses 209 = .ok (.invokestatic 143, 3) := by decide +kernel
theorem dL_refuses_212 : decode cL_refuses 212 = .ok (.ldc2_w 52, 3) := by decide +kernel
theorem dL_refuses_215 : decode cL_refuses 215 = .ok (.lcmp, 1) := by decide +kernel
theorem dL_refuses_216 : decode cL_refuses 216 = .ok (.ifCond .ne 69, 3) := by decide +kernel
theorem dL_refuses_219 : decode cL_refuses 219 = .ok (.aload_n 0, 1) := by decide +kernel
theorem dL_refuses_220 : decode cL_refuses 220 = .ok (.iconst (-1), 1) := by decide +kernel
theorem dL_refuses_221 : decode cL_refuses 221 = .ok (.invokestatic 145, 3) := by decide +kernel
theorem dL_refuses_224 : decode cL_refuses 224 = .ok (.sipush (-901), 3) := by decide +kernel
theorem dL_refuses_227 : decode cL_refuses 227 = .ok (.if_icmp .ne 58, 3) := by decide +kernel
theorem dL_refuses_230 : decode cL_refuses 230 = .ok (.aload_n 0, 1) := by decide +kernel
theorem dL_refuses_231 : decode cL_refuses 231 = .ok (.iconst 1, 1) := by decide +kernel
theorem dL_refuses_232 : decode cL_refuses 232 = .ok (.iload_n 3, 1) := by decide +kernel
theorem dL_refuses_233 : decode cL_refuses 233 = .ok (.ishl, 1) := by decide +kernel
theorem dL_refuses_234 : decode cL_refuses 234 = .ok (.invokestatic 195, 3) := by decide +kernel
theorem dL_refuses_237 : decode cL_refuses 237 = .ok (.sipush (-901), 3) := by decide +kernel
theorem dL_refuses_240 : decode cL_refuses 240 = .ok (.if_icmp .ne 45, 3) := by decide +kernel
theorem dL_refuses_243 : decode cL_refuses 243 = .ok (.aload_n 0, 1) := by decide +kernel
theorem dL_refuses_244 : decode cL_refuses 244 = .ok (.iconst 5, 1) := by decide +kernel
theorem dL_refuses_245 : decode cL_refuses 245 = .ok (.iconst 0, 1) := by decide +kernel
theorem dL_refuses_246 : decode cL_refuses 246 = .ok (.iconst 1, 1) := by decide +kernel
theorem dL_refuses_247 : decode cL_refuses 247 = .ok (.invokestatic 197, 3) := by decide +kernel
theorem dL_refuses_250 : decode cL_refuses 250 = .ok (.sipush (-903), 3) := by decide +kernel
theorem dL_refuses_253 : decode cL_refuses 253 = .ok (.if_icmp .ne 32, 3) := by decide +kernel
theorem dL_refuses_256 : decode cL_refuses 256 = .ok (.aload_n 0, 1) := by decide +kernel
theorem dL_refuses_257 : decode cL_refuses 257 = .ok (.iconst 5, 1) := by decide +kernel
theorem dL_refuses_258 : decode cL_refuses 258 = .ok (.invokestatic 199, 3) := by decide +kernel
theorem dL_refuses_261 : decode cL_refuses 261 = .ok (.sipush (-903), 3) := by decide +kernel
theorem dL_refuses_264 : decode cL_refuses 264 = .ok (.if_icmp .ne 21, 3) := by decide +kernel
theorem dL_refuses_267 : decode cL_refuses 267 = .ok (.aload_n 0, 1) := by decide +kernel
theorem dL_refuses_268 : decode cL_refuses 268 = .ok (.iconst 0, 1) := by decide +kernel
theorem dL_refuses_269 : decode cL_refuses 269 = .ok (.bipush 64, 2) := by decide +kernel
theorem dL_refuses_271 : decode cL_refuses 271 = .ok (.iconst 1, 1) := by decide +kernel
theorem dL_refuses_272 : decode cL_refuses 272 = .ok (.invokestatic 179, 3) := by decide +kernel
theorem dL_refuses_275 : decode cL_refuses 275 = .ok (.sipush (-901), 3) := by decide +kernel
theorem dL_refuses_278 : decode cL_refuses 278 = .ok (.if_icmp .ne 7, 3) := by decide +kernel
theorem dL_refuses_281 : decode cL_refuses 281 = .ok (.iconst 1, 1) := by decide +kernel
theorem dL_refuses_282 : decode cL_refuses 282 = .ok (.goto 4, 3) := by decide +kernel
theorem dL_refuses_285 : decode cL_refuses 285 = .ok (.iconst 0, 1) := by decide +kernel
theorem dL_refuses_286 : decode cL_refuses 286 = .ok (.istore 4, 2) := by decide +kernel
theorem dL_refuses_288 : decode cL_refuses 288 = .ok (.iload 4, 2) := by decide +kernel
theorem dL_refuses_290 : decode cL_refuses 290 = .ok (.ifCond .eq 58, 3) := by decide +kernel
theorem dL_refuses_293 : decode cL_refuses 293 = .ok (.aload_n 0, 1) := by decide +kernel
theorem dL_refuses_294 : decode cL_refuses 294 = .ok (.bipush 16, 2) := by decide +kernel
theorem dL_refuses_296 : decode cL_refuses 296 = .ok (.iconst 0, 1) := by decide +kernel
theorem dL_refuses_297 : decode cL_refuses 297 = .ok (.invokestatic 201, 3) := by decide +kernel
theorem dL_refuses_300 : decode cL_refuses 300 = .ok (.sipush (-903), 3) := by decide +kernel
theorem dL_refuses_303 : decode cL_refuses 303 = .ok (.if_icmp .ne 45, 3) := by decide +kernel
theorem dL_refuses_306 : decode cL_refuses 306 = .ok (.aload_n 0, 1) := by decide +kernel
theorem dL_refuses_307 : decode cL_refuses 307 = .ok (.iconst 1, 1) := by decide +kernel
theorem dL_refuses_308 : decode cL_refuses 308 = .ok (.iload_n 3, 1) := by decide +kernel
theorem dL_refuses_309 : decode cL_refuses 309 = .ok (.ishl, 1) := by decide +kernel
theorem dL_refuses_310 : decode cL_refuses 310 = .ok (.iconst 0, 1) := by decide +kernel
theorem dL_refuses_311 : decode cL_refuses 311 = .ok (.invokestatic 167, 3) := by decide +kernel
theorem dL_refuses_314 : decode cL_refuses 314 = .ok (.sipush (-901), 3) := by decide +kernel
theorem dL_refuses_317 : decode cL_refuses 317 = .ok (.if_icmp .ne 31, 3) := by decide +kernel
theorem dL_refuses_320 : decode cL_refuses 320 = .ok (.aload_n 0, 1) := by decide +kernel
theorem dL_refuses_321 : decode cL_refuses 321 = .ok (.iconst (-1), 1) := by decide +kernel
theorem dL_refuses_322 : decode cL_refuses 322 = .ok (.invokestatic 182, 3) := by decide +kernel
theorem dL_refuses_325 : decode cL_refuses 325 = .ok (.sipush (-901), 3) := by decide +kernel
theorem dL_refuses_328 : decode cL_refuses 328 = .ok (.if_icmp .ne 20, 3) := by decide +kernel
theorem dL_refuses_331 : decode cL_refuses 331 = .ok (.aload_n 0, 1) := by decide +kernel
theorem dL_refuses_332 : decode cL_refuses 332 = .ok (.sipush 128, 3) := by decide +kernel
theorem dL_refuses_335 : decode cL_refuses 335 = .ok (.invokestatic 203, 3) := by decide +kernel
theorem dL_refuses_338 : decode cL_refuses 338 = .ok (.sipush (-901), 3) := by decide +kernel
theorem dL_refuses_341 : decode cL_refuses 341 = .ok (.if_icmp .ne 7, 3) := by decide +kernel
theorem dL_refuses_344 : decode cL_refuses 344 = .ok (.iconst 1, 1) := by decide +kernel
theorem dL_refuses_345 : decode cL_refuses 345 = .ok (.goto 4, 3) := by decide +kernel
theorem dL_refuses_348 : decode cL_refuses 348 = .ok (.iconst 0, 1) := by decide +kernel
theorem dL_refuses_349 : decode cL_refuses 349 = .ok (.istore 4, 2) := by decide +kernel
theorem dL_refuses_351 : decode cL_refuses 351 = .ok (.iload 4, 2) := by decide +kernel
theorem dL_refuses_353 : decode cL_refuses 353 = .ok (.ifCond .eq 16, 3) := by decide +kernel
theorem dL_refuses_356 : decode cL_refuses 356 = .ok (.aload_n 0, 1) := by decide +kernel
theorem dL_refuses_357 : decode cL_refuses 357 = .ok (.invokevirtual 184, 3) := by decide +kernel
theorem dL_refuses_360 : decode cL_refuses 360 = .ok (.lload_n 1, 1) := by decide +kernel
theorem dL_refuses_361 : decode cL_refuses 361 = .ok (.lcmp, 1) := by decide +kernel
theorem dL_refuses_362 : decode cL_refuses 362 = .ok (.ifCond .ne 7, 3) := by decide +kernel
theorem dL_refuses_365 : decode cL_refuses 365 = .ok (.iconst 1, 1) := by decide +kernel
theorem dL_refuses_366 : decode cL_refuses 366 = .ok (.goto 4, 3) := by decide +kernel
theorem dL_refuses_369 : decode cL_refuses 369 = .ok (.iconst 0, 1) := by decide +kernel
theorem dL_refuses_370 : decode cL_refuses 370 = .ok (.ireturn, 1) := by decide +kernel
theorem dL_law_0 : decode cL_law 0 = .ok (.new 10, 3) := by decide +kernel
theorem dL_law_3 : decode cL_law 3 = .ok (.dup, 1) := by decide +kernel
theorem dL_law_4 : decode cL_law 4 = .ok (.invokespecial 205, 3) := by decide +kernel
theorem dL_law_7 : decode cL_law 7 = .ok (.astore_n 1, 1) := by decide +kernel
theorem dL_law_8 : decode cL_law 8 = .ok (.iconst 1, 1) := by decide +kernel
theorem dL_law_9 : decode cL_law 9 = .ok (.istore_n 2, 1) := by decide +kernel
theorem dL_law_10 : decode cL_law 10 = .ok (.aload_n 1, 1) := by decide +kernel
theorem dL_law_11 : decode cL_law 11 = .ok (.iconst 1, 1) := by decide +kernel
theorem dL_law_12 : decode cL_law 12 = .ok (.invokestatic 206, 3) := by decide +kernel
theorem dL_law_15 : decode cL_law 15 = .ok (.ifCond .eq 38, 3) := by decide +kernel
theorem dL_law_18 : decode cL_law 18 = .ok (.aload_n 1, 1) := by decide +kernel
theorem dL_law_19 : decode cL_law 19 = .ok (.invokestatic 147, 3) := by decide +kernel
theorem dL_law_22 : decode cL_law 22 = .ok (.sipush (-902), 3) := by decide +kernel
theorem dL_law_25 : decode cL_law 25 = .ok (.if_icmp .ne 28, 3) := by decide +kernel
theorem dL_law_28 : decode cL_law 28 = .ok (.aload_n 1, 1) := by decide +kernel
theorem dL_law_29 : decode cL_law 29 = .ok (.invokestatic 210, 3) := by decide +kernel
theorem dL_law_32 : decode cL_law 32 = .ok (.ifCond .eq 21, 3) := by decide +kernel
theorem dL_law_35 : decode cL_law 35 = .ok (.aload_n 1, 1) := by decide +kernel
theorem dL_law_36 : decode cL_law 36 = .ok (.aload_n 0, 1) := by decide +kernel
theorem dL_law_37 : decode cL_law 37 = .ok (.iconst 0, 1) := by decide +kernel
theorem dL_law_38 : decode cL_law 38 = .ok (.invokestatic 214, 3) := by decide +kernel
theorem dL_law_41 : decode cL_law 41 = .ok (.sipush 181, 3) := by decide +kernel
theorem dL_law_44 : decode cL_law 44 = .ok (.invokestatic 164, 3) := by decide +kernel
theorem dL_law_47 : decode cL_law 47 = .ok (.invokestatic 218, 3) := by decide +kernel
theorem dL_law_50 : decode cL_law 50 = .ok (.ifCond .ne 5, 3) := by decide +kernel
theorem dL_law_53 : decode cL_law 53 = .ok (.iconst 0, 1) := by decide +kernel
theorem dL_law_54 : decode cL_law 54 = .ok (.ireturn, 1) := by decide +kernel
theorem dL_law_55 : decode cL_law 55 = .ok (.iconst 0, 1) := by decide +kernel
theorem dL_law_56 : decode cL_law 56 = .ok (.istore_n 3, 1) := by decide +kernel
theorem dL_law_57 : decode cL_law 57 = .ok (.iload_n 3, 1) := by decide +kernel
theorem dL_law_58 : decode cL_law 58 = .ok (.bipush 16, 2) := by decide +kernel
theorem dL_law_60 : decode cL_law 60 = .ok (.if_icmp .ge 660, 3) := by decide +kernel
theorem dL_law_63 : decode cL_law 63 = .ok (.aload_n 0, 1) := by decide +kernel
theorem dL_law_64 : decode cL_law 64 = .ok (.iconst 1, 1) := by decide +kernel
theorem dL_law_65 : decode cL_law 65 = .ok (.iconst 2, 1) := by decide +kernel
theorem dL_law_66 : decode cL_law 66 = .ok (.iload_n 3, 1) := by decide +kernel
theorem dL_law_67 : decode cL_law 67 = .ok (.imul, 1) := by decide +kernel
theorem dL_law_68 : decode cL_law 68 = .ok (.iadd, 1) := by decide +kernel
theorem dL_law_69 : decode cL_law 69 = .ok (.invokestatic 214, 3) := by decide +kernel
theorem dL_law_72 : decode cL_law 72 = .ok (.istore 4, 2) := by decide +kernel
theorem dL_law_74 : decode cL_law 74 = .ok (.aload_n 0, 1) := by decide +kernel
theorem dL_law_75 : decode cL_law 75 = .ok (.iconst 2, 1) := by decide +kernel
theorem dL_law_76 : decode cL_law 76 = .ok (.iconst 2, 1) := by decide +kernel
theorem dL_law_77 : decode cL_law 77 = .ok (.iload_n 3, 1) := by decide +kernel
theorem dL_law_78 : decode cL_law 78 = .ok (.imul, 1) := by decide +kernel
theorem dL_law_79 : decode cL_law 79 = .ok (.iadd, 1) := by decide +kernel
theorem dL_law_80 : decode cL_law 80 = .ok (.invokestatic 214, 3) := by decide +kernel
theorem dL_law_83 : decode cL_law 83 = .ok (.istore 5, 2) := by decide +kernel
theorem dL_law_85 : decode cL_law 85 = .ok (.aload_n 1, 1) := by decide +kernel
theorem dL_law_86 : decode cL_law 86 = .ok (.iconst 0, 1) := by decide +kernel
theorem dL_law_87 : decode cL_law 87 = .ok (.invokestatic 101, 3) := by decide +kernel
theorem dL_law_90 : decode cL_law 90 = .ok (.istore 6, 2) := by decide +kernel
theorem dL_law_92 : decode cL_law 92 = .ok (.aload_n 1, 1) := by decide +kernel
theorem dL_law_93 : decode cL_law 93 = .ok (.iconst 1, 1) := by decide +kernel
theorem dL_law_94 : decode cL_law 94 = .ok (.invokestatic 101, 3) := by decide +kernel
theorem dL_law_97 : decode cL_law 97 = .ok (.istore 7, 2) := by decide +kernel
theorem dL_law_99 : decode cL_law 99 = .ok (.aload_n 1, 1) := by decide +kernel
theorem dL_law_100 : decode cL_law 100 = .ok (.iconst 2, 1) := by decide +kernel
theorem dL_law_101 : decode cL_law 101 = .ok (.invokestatic 101, 3) := by decide +kernel
theorem dL_law_104 : decode cL_law 104 = .ok (.istore 8, 2) := by decide +kernel
theorem dL_law_106 : decode cL_law 106 = .ok (.iload 4, 2) := by decide +kernel
theorem dL_law_108 : decode cL_law 108 = .ok (.bipush 12, 2) := by decide +kernel
theorem dL_law_110 : decode cL_law 110 = .ok (.invokestatic 164, 3) := by decide +kernel
theorem dL_law_113 : decode cL_law 113 = .ok (.istore 9, 2) := by decide +kernel
theorem dL_law_115 : decode cL_law 115 = .ok (.iconst 0, 1) := by decide +kernel
theorem dL_law_116 : decode cL_law 116 = .ok (.istore 10, 2) := by decide +kernel
theorem dL_law_118 : decode cL_law 118 = .ok (.iload 9, 2) := by decide +kernel
theorem dL_law_120 : decode cL_law 120 = .ok (.iconst 4, 1) := by decide +kernel
theorem dL_law_121 : decode cL_law 121 = .ok (.if_icmp .lt 9, 3) := by decide +kernel
theorem dL_law_124 : decode cL_law 124 = .ok (.iload 6, 2) := by decide +kernel
theorem dL_law_126 : decode cL_law 126 = .ok (.iconst 3, 1) := by decide +kernel
theorem dL_law_127 : decode cL_law 127 = .ok (.if_icmp .ge 60, 3) := by decide +kernel
theorem dL_law_130 : decode cL_law 130 = .ok (.aload_n 1, 1) := by decide +kernel
theorem dL_law_131 : decode cL_law 131 = .ok (.iload 5, 2) := by decide +kernel
theorem dL_law_133 : decode cL_law 133 = .ok (.bipush 40, 2) := by decide +kernel
theorem dL_law_135 : decode cL_law 135 = .ok (.invokestatic 164, 3) := by decide +kernel
theorem dL_law_138 : decode cL_law 138 = .ok (.iload 5, 2) := by decide +kernel
theorem dL_law_140 : decode cL_law 140 = .ok (.bipush 6, 2) := by decide +kernel
theorem dL_law_142 : decode cL_law 142 = .ok (.ishr, 1) := by decide +kernel
theorem dL_law_143 : decode cL_law 143 = .ok (.bipush 61, 2) := by decide +kernel
theorem dL_law_145 : decode cL_law 145 = .ok (.invokestatic 164, 3) := by decide +kernel
theorem dL_law_148 : decode cL_law 148 = .ok (.invokestatic 187, 3) := by decide +kernel
theorem dL_law_151 : decode cL_law 151 = .ok (.istore 10, 2) := by decide +kernel
theorem dL_law_153 : decode cL_law 153 = .ok (.iload 10, 2) := by decide +kernel
theorem dL_law_155 : decode cL_law 155 = .ok (.sipush (-901), 3) := by decide +kernel
theorem dL_law_158 : decode cL_law 158 = .ok (.if_icmp .eq 18, 3) := by decide +kernel
theorem dL_law_161 : decode cL_law 161 = .ok (.iload 10, 2) := by decide +kernel
theorem dL_law_163 : decode cL_law 163 = .ok (.sipush (-902), 3) := by decide +kernel
theorem dL_law_166 : decode cL_law 166 = .ok (.if_icmp .ne 14, 3) := by decide +kernel
theorem dL_law_169 : decode cL_law 169 = .ok (.iload 6, 2) := by decide +kernel
theorem dL_law_171 : decode cL_law 171 = .ok (.bipush 10, 2) := by decide +kernel
theorem dL_law_173 : decode cL_law 173 = .ok (.if_icmp .ne 7, 3) := by decide +kernel
theorem dL_law_176 : decode cL_law 176 = .ok (.iconst 0, 1) := by decide +kernel
theorem dL_law_177 : decode cL_law 177 = .ok (.goto 5, 3) := by decide +kernel
theorem dL_law_180 : decode cL_law 180 = .ok (.iload 10, 2) := by decide +kernel
theorem dL_law_182 : decode cL_law 182 = .ok (.istore 10, 2) := by decide +kernel
theorem dL_law_184 : decode cL_law 184 = .ok (.goto 487, 3) := by decide +kernel
theorem dL_law_187 : decode cL_law 187 = .ok (.iload 9, 2) := by decide +kernel
theorem dL_law_189 : decode cL_law 189 = .ok (.iconst 4, 1) := by decide +kernel
theorem dL_law_190 : decode cL_law 190 = .ok (.if_icmp .ne 55, 3) := by decide +kernel
theorem dL_law_193 : decode cL_law 193 = .ok (.aload_n 1, 1) := by decide +kernel
theorem dL_law_194 : decode cL_law 194 = .ok (.iload 5, 2) := by decide +kernel
theorem dL_law_196 : decode cL_law 196 = .ok (.bipush 12, 2) := by decide +kernel
theorem dL_law_198 : decode cL_law 198 = .ok (.ishr, 1) := by decide +kernel
theorem dL_law_199 : decode cL_law 199 = .ok (.iload 6, 2) := by decide +kernel
theorem dL_law_201 : decode cL_law 201 = .ok (.invokestatic 164, 3) := by decide +kernel
theorem dL_law_204 : decode cL_law 204 = .ok (.iload 5, 2) := by decide +kernel
theorem dL_law_206 : decode cL_law 206 = .ok (.bipush 40, 2) := by decide +kernel
theorem dL_law_208 : decode cL_law 208 = .ok (.invokestatic 164, 3) := by decide +kernel
theorem dL_law_211 : decode cL_law 211 = .ok (.iload 5, 2) := by decide +kernel
theorem dL_law_213 : decode cL_law 213 = .ok (.bipush 6, 2) := by decide +kernel
theorem dL_law_215 : decode cL_law 215 = .ok (.ishr, 1) := by decide +kernel
theorem dL_law_216 : decode cL_law 216 = .ok (.bipush 61, 2) := by decide +kernel
theorem dL_law_218 : decode cL_law 218 = .ok (.invokestatic 164, 3) := by decide +kernel
theorem dL_law_221 : decode cL_law 221 = .ok (.invokestatic 189, 3) := by decide +kernel
theorem dL_law_224 : decode cL_law 224 = .ok (.istore 10, 2) := by decide +kernel
theorem dL_law_226 : decode cL_law 226 = .ok (.iload 10, 2) := by decide +kernel
theorem dL_law_228 : decode cL_law 228 = .ok (.sipush (-901), 3) := by decide +kernel
theorem dL_law_231 : decode cL_law 231 = .ok (.if_icmp .ne 7, 3) := by decide +kernel
theorem dL_law_234 : decode cL_law 234 = .ok (.iconst 0, 1) := by decide +kernel
theorem dL_law_235 : decode cL_law 235 = .ok (.goto 5, 3) := by decide +kernel
theorem dL_law_238 : decode cL_law 238 = .ok (.iload 10, 2) := by decide +kernel
theorem dL_law_240 : decode cL_law 240 = .ok (.istore 10, 2) := by decide +kernel
theorem dL_law_242 : decode cL_law 242 = .ok (.goto 429, 3) := by decide +kernel
theorem dL_law_245 : decode cL_law 245 = .ok (.iload 9, 2) := by decide +kernel
theorem dL_law_247 : decode cL_law 247 = .ok (.iconst 5, 1) := by decide +kernel
theorem dL_law_248 : decode cL_law 248 = .ok (.if_icmp .ne 19, 3) := by decide +kernel
theorem dL_law_251 : decode cL_law 251 = .ok (.aload_n 1, 1) := by decide +kernel
theorem dL_law_252 : decode cL_law 252 = .ok (.iload 5, 2) := by decide +kernel
theorem dL_law_254 : decode cL_law 254 = .ok (.iload 6, 2) := by decide +kernel
theorem dL_law_256 : decode cL_law 256 = .ok (.invokestatic 164, 3) := by decide +kernel
theorem dL_law_259 : decode cL_law 259 = .ok (.invokestatic 191, 3) := by decide +kernel
theorem dL_law_262 : decode cL_law 262 = .ok (.istore 10, 2) := by decide +kernel
theorem dL_law_264 : decode cL_law 264 = .ok (.goto 407, 3) := by decide +kernel
theorem dL_law_267 : decode cL_law 267 = .ok (.iload 9, 2) := by decide +kernel
theorem dL_law_269 : decode cL_law 269 = .ok (.bipush 6, 2) := by decide +kernel
theorem dL_law_271 : decode cL_law 271 = .ok (.if_icmp .ne 142, 3) := by decide +kernel
theorem dL_law_274 : decode cL_law 274 = .ok (.iload 5, 2) := by decide +kernel
theorem dL_law_276 : decode cL_law 276 = .ok (.bipush 9, 2) := by decide +kernel
theorem dL_law_278 : decode cL_law 278 = .ok (.invokestatic 164, 3) := by decide +kernel
theorem dL_law_281 : decode cL_law 281 = .ok (.iconst 4, 1) := by decide +kernel
theorem dL_law_282 : decode cL_law 282 = .ok (.isub, 1) := by decide +kernel
theorem dL_law_283 : decode cL_law 283 = .ok (.istore 11, 2) := by decide +kernel
theorem dL_law_285 : decode cL_law 285 = .ok (.aload_n 1, 1) := by decide +kernel
theorem dL_law_286 : decode cL_law 286 = .ok (.invokevirtual 132, 3) := by decide +kernel
theorem dL_law_289 : decode cL_law 289 = .ok (.istore 12, 2) := by decide +kernel
theorem dL_law_291 : decode cL_law 291 = .ok (.aload_n 1, 1) := by decide +kernel
theorem dL_law_292 : decode cL_law 292 = .ok (.invokevirtual 120, 3) := by decide +kernel
theorem dL_law_295 : decode cL_law 295 = .ok (.istore 13, 2) := by decide +kernel
theorem dL_law_297 : decode cL_law 297 = .ok (.aload_n 1, 1) := by decide +kernel
theorem dL_law_298 : decode cL_law 298 = .ok (.invokevirtual 135, 3) := by decide +kernel
theorem dL_law_301 : decode cL_law 301 = .ok (.istore 14, 2) := by decide +kernel
theorem dL_law_303 : decode cL_law 303 = .ok (.aload_n 1, 1) := by decide +kernel
theorem dL_law_304 : decode cL_law 304 = .ok (.iload 11, 2) := by decide +kernel
theorem dL_law_306 : decode cL_law 306 = .ok (.invokestatic 193, 3) := by decide +kernel
theorem dL_law_309 : decode cL_law 309 = .ok (.istore 10, 2) := by decide +kernel
theorem dL_law_311 : decode cL_law 311 = .ok (.iload 10, 2) := by decide +kernel
theorem dL_law_313 : decode cL_law 313 = .ok (.ifCond .lt 81, 3) := by decide +kernel
theorem dL_law_316 : decode cL_law 316 = .ok (.aload_n 1, 1) := by decide +kernel
theorem dL_law_317 : decode cL_law 317 = .ok (.invokevirtual 120, 3) := by decide +kernel
theorem dL_law_320 : decode cL_law 320 = .ok (.iload 13, 2) := by decide +kernel
theorem dL_law_322 : decode cL_law 322 = .ok (.if_icmp .ne 72, 3) := by decide +kernel
theorem dL_law_325 : decode cL_law 325 = .ok (.aload_n 1, 1) := by decide +kernel
theorem dL_law_326 : decode cL_law 326 = .ok (.bipush 7, 2) := by decide +kernel
theorem dL_law_328 : decode cL_law 328 = .ok (.iconst 0, 1) := by decide +kernel
theorem dL_law_329 : decode cL_law 329 = .ok (.iconst 0, 1) := by decide +kernel
theorem dL_law_330 : decode cL_law 330 = .ok (.invokestatic 159, 3) := by decide +kernel
theorem dL_law_333 : decode cL_law 333 = .ok (.ifCond .lt 61, 3) := by decide +kernel
theorem dL_law_336 : decode cL_law 336 = .ok (.aload_n 1, 1) := by decide +kernel
theorem dL_law_337 : decode cL_law 337 = .ok (.invokestatic 147, 3) := by decide +kernel
theorem dL_law_340 : decode cL_law 340 = .ok (.ifCond .lt 54, 3) := by decide +kernel
theorem dL_law_343 : decode cL_law 343 = .ok (.aload_n 1, 1) := by decide +kernel
theorem dL_law_344 : decode cL_law 344 = .ok (.invokestatic 221, 3) := by decide +kernel
theorem dL_law_347 : decode cL_law 347 = .ok (.ifCond .eq 47, 3) := by decide +kernel
theorem dL_law_350 : decode cL_law 350 = .ok (.aload_n 1, 1) := by decide +kernel
theorem dL_law_351 : decode cL_law 351 = .ok (.iload 11, 2) := by decide +kernel
theorem dL_law_353 : decode cL_law 353 = .ok (.ineg, 1) := by decide +kernel
theorem dL_law_354 : decode cL_law 354 = .ok (.invokestatic 193, 3) := by decide +kernel
theorem dL_law_357 : decode cL_law 357 = .ok (.ifCond .lt 37, 3) := by decide +kernel
theorem dL_law_360 : decode cL_law 360 = .ok (.aload_n 1, 1) := by decide +kernel
theorem dL_law_361 : decode cL_law 361 = .ok (.invokestatic 221, 3) := by decide +kernel
theorem dL_law_364 : decode cL_law 364 = .ok (.ifCond .eq 30, 3) := by decide +kernel
theorem dL_law_367 : decode cL_law 367 = .ok (.aload_n 1, 1) := by decide +kernel
theorem dL_law_368 : decode cL_law 368 = .ok (.invokestatic 147, 3) := by decide +kernel
theorem dL_law_371 : decode cL_law 371 = .ok (.ifCond .lt 23, 3) := by decide +kernel
theorem dL_law_374 : decode cL_law 374 = .ok (.aload_n 1, 1) := by decide +kernel
theorem dL_law_375 : decode cL_law 375 = .ok (.invokevirtual 132, 3) := by decide +kernel
theorem dL_law_378 : decode cL_law 378 = .ok (.iload 12, 2) := by decide +kernel
theorem dL_law_380 : decode cL_law 380 = .ok (.if_icmp .ne 12, 3) := by decide +kernel
theorem dL_law_383 : decode cL_law 383 = .ok (.aload_n 1, 1) := by decide +kernel
theorem dL_law_384 : decode cL_law 384 = .ok (.invokevirtual 135, 3) := by decide +kernel
theorem dL_law_387 : decode cL_law 387 = .ok (.iload 14, 2) := by decide +kernel
theorem dL_law_389 : decode cL_law 389 = .ok (.if_icmp .eq 5, 3) := by decide +kernel
theorem dL_law_392 : decode cL_law 392 = .ok (.iconst 0, 1) := by decide +kernel
theorem dL_law_393 : decode cL_law 393 = .ok (.ireturn, 1) := by decide +kernel
theorem dL_law_394 : decode cL_law 394 = .ok (.iload 10, 2) := by decide +kernel
theorem dL_law_396 : decode cL_law 396 = .ok (.sipush (-902), 3) := by decide +kernel
theorem dL_law_399 : decode cL_law 399 = .ok (.if_icmp .ne 7, 3) := by decide +kernel
theorem dL_law_402 : decode cL_law 402 = .ok (.iconst 0, 1) := by decide +kernel
theorem dL_law_403 : decode cL_law 403 = .ok (.goto 5, 3) := by decide +kernel
theorem dL_law_406 : decode cL_law 406 = .ok (.iload 10, 2) := by decide +kernel
theorem dL_law_408 : decode cL_law 408 = .ok (.istore 10, 2) := by decide +kernel
theorem dL_law_410 : decode cL_law 410 = .ok (.goto 261, 3) := by decide +kernel
theorem dL_law_413 : decode cL_law 413 = .ok (.iload 9, 2) := by decide +kernel
theorem dL_law_415 : decode cL_law 415 = .ok (.bipush 7, 2) := by decide +kernel
theorem dL_law_417 : decode cL_law 417 = .ok (.if_icmp .ne 40, 3) := by decide +kernel
theorem dL_law_420 : decode cL_law 420 = .ok (.aload_n 1, 1) := by decide +kernel
theorem dL_law_421 : decode cL_law 421 = .ok (.iload 5, 2) := by decide +kernel
theorem dL_law_423 : decode cL_law 423 = .ok (.bipush 8, 2) := by decide +kernel
theorem dL_law_425 : decode cL_law 425 = .ok (.invokestatic 164, 3) := by decide +kernel
theorem dL_law_428 : decode cL_law 428 = .ok (.iload 5, 2) := by decide +kernel
theorem dL_law_430 : decode cL_law 430 = .ok (.iconst 3, 1) := by decide +kernel
theorem dL_law_431 : decode cL_law 431 = .ok (.ishr, 1) := by decide +kernel
theorem dL_law_432 : decode cL_law 432 = .ok (.sipush 150, 3) := by decide +kernel
theorem dL_law_435 : decode cL_law 435 = .ok (.invokestatic 164, 3) := by decide +kernel
theorem dL_law_438 : decode cL_law 438 = .ok (.iload 5, 2) := by decide +kernel
theorem dL_law_440 : decode cL_law 440 = .ok (.bipush 11, 2) := by decide +kernel
theorem dL_law_442 : decode cL_law 442 = .ok (.ishr, 1) := by decide +kernel
theorem dL_law_443 : decode cL_law 443 = .ok (.sipush 301, 3) := by decide +kernel
theorem dL_law_446 : decode cL_law 446 = .ok (.invokestatic 164, 3) := by decide +kernel
theorem dL_law_449 : decode cL_law 449 = .ok (.invokestatic 159, 3) := by decide +kernel
theorem dL_law_452 : decode cL_law 452 = .ok (.istore 10, 2) := by decide +kernel
theorem dL_law_454 : decode cL_law 454 = .ok (.goto 217, 3) := by decide +kernel
theorem dL_law_457 : decode cL_law 457 = .ok (.iload 9, 2) := by decide +kernel
theorem dL_law_459 : decode cL_law 459 = .ok (.bipush 8, 2) := by decide +kernel
theorem dL_law_461 : decode cL_law 461 = .ok (.if_icmp .ne 46, 3) := by decide +kernel
theorem dL_law_464 : decode cL_law 464 = .ok (.iconst 1, 1) := by decide +kernel
theorem dL_law_465 : decode cL_law 465 = .ok (.iload 5, 2) := by decide +kernel
theorem dL_law_467 : decode cL_law 467 = .ok (.iconst 3, 1) := by decide +kernel
theorem dL_law_468 : decode cL_law 468 = .ok (.ishr, 1) := by decide +kernel
theorem dL_law_469 : decode cL_law 469 = .ok (.iconst 4, 1) := by decide +kernel
theorem dL_law_470 : decode cL_law 470 = .ok (.invokestatic 164, 3) := by decide +kernel
theorem dL_law_473 : decode cL_law 473 = .ok (.iadd, 1) := by decide +kernel
theorem dL_law_474 : decode cL_law 474 = .ok (.istore_n 2, 1) := by decide +kernel
theorem dL_law_475 : decode cL_law 475 = .ok (.aload_n 1, 1) := by decide +kernel
theorem dL_law_476 : decode cL_law 476 = .ok (.iload 5, 2) := by decide +kernel
theorem dL_law_478 : decode cL_law 478 = .ok (.iconst 3, 1) := by decide +kernel
theorem dL_law_479 : decode cL_law 479 = .ok (.invokestatic 164, 3) := by decide +kernel
theorem dL_law_482 : decode cL_law 482 = .ok (.ifCond .ne 15, 3) := by decide +kernel
theorem dL_law_485 : decode cL_law 485 = .ok (.iload 5, 2) := by decide +kernel
theorem dL_law_487 : decode cL_law 487 = .ok (.bipush 6, 2) := by decide +kernel
theorem dL_law_489 : decode cL_law 489 = .ok (.ishr, 1) := by decide +kernel
theorem dL_law_490 : decode cL_law 490 = .ok (.iconst 4, 1) := by decide +kernel
theorem dL_law_491 : decode cL_law 491 = .ok (.invokestatic 164, 3) := by decide +kernel
theorem dL_law_494 : decode cL_law 494 = .ok (.goto 4, 3) := by decide +kernel
theorem dL_law_497 : decode cL_law 497 = .ok (.iconst 0, 1) := by decide +kernel
theorem dL_law_498 : decode cL_law 498 = .ok (.iload_n 2, 1) := by decide +kernel
theorem dL_law_499 : decode cL_law 499 = .ok (.invokestatic 162, 3) := by decide +kernel
theorem dL_law_502 : decode cL_law 502 = .ok (.istore 10, 2) := by decide +kernel
theorem dL_law_504 : decode cL_law 504 = .ok (.goto 167, 3) := by decide +kernel
theorem dL_law_507 : decode cL_law 507 = .ok (.iload 9, 2) := by decide +kernel
theorem dL_law_509 : decode cL_law 509 = .ok (.bipush 9, 2) := by decide +kernel
theorem dL_law_511 : decode cL_law 511 = .ok (.if_icmp .ne 49, 3) := by decide +kernel
theorem dL_law_514 : decode cL_law 514 = .ok (.iload 7, 2) := by decide +kernel
theorem dL_law_516 : decode cL_law 516 = .ok (.ifCond .le 44, 3) := by decide +kernel
theorem dL_law_519 : decode cL_law 519 = .ok (.aload_n 1, 1) := by decide +kernel
theorem dL_law_520 : decode cL_law 520 = .ok (.iload 5, 2) := by decide +kernel
theorem dL_law_522 : decode cL_law 522 = .ok (.iload 7, 2) := by decide +kernel
theorem dL_law_524 : decode cL_law 524 = .ok (.invokestatic 164, 3) := by decide +kernel
theorem dL_law_527 : decode cL_law 527 = .ok (.iload 5, 2) := by decide +kernel
theorem dL_law_529 : decode cL_law 529 = .ok (.iconst 4, 1) := by decide +kernel
theorem dL_law_530 : decode cL_law 530 = .ok (.ishr, 1) := by decide +kernel
theorem dL_law_531 : decode cL_law 531 = .ok (.iload 6, 2) := by decide +kernel
theorem dL_law_533 : decode cL_law 533 = .ok (.invokestatic 164, 3) := by decide +kernel
theorem dL_law_536 : decode cL_law 536 = .ok (.iload 5, 2) := by decide +kernel
theorem dL_law_538 : decode cL_law 538 = .ok (.bipush 9, 2) := by decide +kernel
theorem dL_law_540 : decode cL_law 540 = .ok (.ishr, 1) := by decide +kernel
theorem dL_law_541 : decode cL_law 541 = .ok (.iconst 1, 1) := by decide +kernel
theorem dL_law_542 : decode cL_law 542 = .ok (.iand, 1) := by decide +kernel
theorem dL_law_543 : decode cL_law 543 = .ok (.iconst 1, 1) := by decide +kernel
theorem dL_law_544 : decode cL_law 544 = .ok (.if_icmp .ne 7, 3) := by decide +kernel
theorem dL_law_547 : decode cL_law 547 = .ok (.iconst 1, 1) := by decide +kernel
theorem dL_law_548 : decode cL_law 548 = .ok (.goto 4, 3) := by decide +kernel
theorem dL_law_551 : decode cL_law 551 = .ok (.iconst 0, 1) := by decide +kernel
theorem dL_law_552 : decode cL_law 552 = .ok (.invokestatic 197, 3) := by decide +kernel
theorem dL_law_555 : decode cL_law 555 = .ok (.istore 10, 2) := by decide +kernel
theorem dL_law_557 : decode cL_law 557 = .ok (.goto 114, 3) := by decide +kernel
theorem dL_law_560 : decode cL_law 560 = .ok (.iload 9, 2) := by decide +kernel
theorem dL_law_562 : decode cL_law 562 = .ok (.bipush 11, 2) := by decide +kernel
theorem dL_law_564 : decode cL_law 564 = .ok (.if_icmp .ge 43, 3) := by decide +kernel
theorem dL_law_567 : decode cL_law 567 = .ok (.aload_n 1, 1) := by decide +kernel
theorem dL_law_568 : decode cL_law 568 = .ok (.iload 5, 2) := by decide +kernel
theorem dL_law_570 : decode cL_law 570 = .ok (.iconst 1, 1) := by decide +kernel
theorem dL_law_571 : decode cL_law 571 = .ok (.iload 6, 2) := by decide +kernel
theorem dL_law_573 : decode cL_law 573 = .ok (.ishl, 1) := by decide +kernel
theorem dL_law_574 : decode cL_law 574 = .ok (.invokestatic 164, 3) := by decide +kernel
theorem dL_law_577 : decode cL_law 577 = .ok (.invokestatic 195, 3) := by decide +kernel
theorem dL_law_580 : decode cL_law 580 = .ok (.istore 10, 2) := by decide +kernel
theorem dL_law_582 : decode cL_law 582 = .ok (.iload 10, 2) := by decide +kernel
theorem dL_law_584 : decode cL_law 584 = .ok (.sipush (-902), 3) := by decide +kernel
theorem dL_law_587 : decode cL_law 587 = .ok (.if_icmp .ne 13, 3) := by decide +kernel
theorem dL_law_590 : decode cL_law 590 = .ok (.iload 7, 2) := by decide +kernel
theorem dL_law_592 : decode cL_law 592 = .ok (.iconst 5, 1) := by decide +kernel
theorem dL_law_593 : decode cL_law 593 = .ok (.if_icmp .ne 7, 3) := by decide +kernel
theorem dL_law_596 : decode cL_law 596 = .ok (.iconst 0, 1) := by decide +kernel
theorem dL_law_597 : decode cL_law 597 = .ok (.goto 5, 3) := by decide +kernel
theorem dL_law_600 : decode cL_law 600 = .ok (.iload 10, 2) := by decide +kernel
theorem dL_law_602 : decode cL_law 602 = .ok (.istore 10, 2) := by decide +kernel
theorem dL_law_604 : decode cL_law 604 = .ok (.goto 67, 3) := by decide +kernel
theorem dL_law_607 : decode cL_law 607 = .ok (.aload_n 1, 1) := by decide +kernel
theorem dL_law_608 : decode cL_law 608 = .ok (.iload 5, 2) := by decide +kernel
theorem dL_law_610 : decode cL_law 610 = .ok (.iconst 1, 1) := by decide +kernel
theorem dL_law_611 : decode cL_law 611 = .ok (.iload 6, 2) := by decide +kernel
theorem dL_law_613 : decode cL_law 613 = .ok (.ishl, 1) := by decide +kernel
theorem dL_law_614 : decode cL_law 614 = .ok (.invokestatic 164, 3) := by decide +kernel
theorem dL_law_617 : decode cL_law 617 = .ok (.iload 5, 2) := by decide +kernel
theorem dL_law_619 : decode cL_law 619 = .ok (.bipush 10, 2) := by decide +kernel
theorem dL_law_621 : decode cL_law 621 = .ok (.ishr, 1) := by decide +kernel
theorem dL_law_622 : decode cL_law 622 = .ok (.bipush 40, 2) := by decide +kernel
theorem dL_law_624 : decode cL_law 624 = .ok (.invokestatic 164, 3) := by decide +kernel
theorem dL_law_627 : decode cL_law 627 = .ok (.iload 5, 2) := by decide +kernel
theorem dL_law_629 : decode cL_law 629 = .ok (.bipush 16, 2) := by decide +kernel
theorem dL_law_631 : decode cL_law 631 = .ok (.ishr, 1) := by decide +kernel
theorem dL_law_632 : decode cL_law 632 = .ok (.iconst 1, 1) := by decide +kernel
theorem dL_law_633 : decode cL_law 633 = .ok (.iand, 1) := by decide +kernel
theorem dL_law_634 : decode cL_law 634 = .ok (.iconst 1, 1) := by decide +kernel
theorem dL_law_635 : decode cL_law 635 = .ok (.if_icmp .ne 7, 3) := by decide +kernel
theorem dL_law_638 : decode cL_law 638 = .ok (.iconst 1, 1) := by decide +kernel
theorem dL_law_639 : decode cL_law 639 = .ok (.goto 4, 3) := by decide +kernel
theorem dL_law_642 : decode cL_law 642 = .ok (.iconst 0, 1) := by decide +kernel
theorem dL_law_643 : decode cL_law 643 = .ok (.invokestatic 179, 3) := by decide +kernel
theorem dL_law_646 : decode cL_law 646 = .ok (.istore 10, 2) := by decide +kernel
theorem dL_law_648 : decode cL_law 648 = .ok (.iload 10, 2) := by decide +kernel
theorem dL_law_650 : decode cL_law 650 = .ok (.sipush (-902), 3) := by decide +kernel
theorem dL_law_653 : decode cL_law 653 = .ok (.if_icmp .ne 14, 3) := by decide +kernel
theorem dL_law_656 : decode cL_law 656 = .ok (.iload 8, 2) := by decide +kernel
theorem dL_law_658 : decode cL_law 658 = .ok (.bipush 16, 2) := by decide +kernel
theorem dL_law_660 : decode cL_law 660 = .ok (.if_icmp .ne 7, 3) := by decide +kernel
theorem dL_law_663 : decode cL_law 663 = .ok (.iconst 0, 1) := by decide +kernel
theorem dL_law_664 : decode cL_law 664 = .ok (.goto 5, 3) := by decide +kernel
theorem dL_law_667 : decode cL_law 667 = .ok (.iload 10, 2) := by decide +kernel
theorem dL_law_669 : decode cL_law 669 = .ok (.istore 10, 2) := by decide +kernel
theorem dL_law_671 : decode cL_law 671 = .ok (.iload 10, 2) := by decide +kernel
theorem dL_law_673 : decode cL_law 673 = .ok (.ifCond .lt 39, 3) := by decide +kernel
theorem dL_law_676 : decode cL_law 676 = .ok (.aload_n 1, 1) := by decide +kernel
theorem dL_law_677 : decode cL_law 677 = .ok (.iload_n 2, 1) := by decide +kernel
theorem dL_law_678 : decode cL_law 678 = .ok (.invokestatic 206, 3) := by decide +kernel
theorem dL_law_681 : decode cL_law 681 = .ok (.ifCond .eq 31, 3) := by decide +kernel
theorem dL_law_684 : decode cL_law 684 = .ok (.aload_n 1, 1) := by decide +kernel
theorem dL_law_685 : decode cL_law 685 = .ok (.iload 5, 2) := by decide +kernel
theorem dL_law_687 : decode cL_law 687 = .ok (.bipush 18, 2) := by decide +kernel
theorem dL_law_689 : decode cL_law 689 = .ok (.ishr, 1) := by decide +kernel
theorem dL_law_690 : decode cL_law 690 = .ok (.bipush 61, 2) := by decide +kernel
theorem dL_law_692 : decode cL_law 692 = .ok (.invokestatic 164, 3) := by decide +kernel
theorem dL_law_695 : decode cL_law 695 = .ok (.invokestatic 224, 3) := by decide +kernel
theorem dL_law_698 : decode cL_law 698 = .ok (.ifCond .eq 14, 3) := by decide +kernel
theorem dL_law_701 : decode cL_law 701 = .ok (.aload_n 1, 1) := by decide +kernel
theorem dL_law_702 : decode cL_law 702 = .ok (.iload 5, 2) := by decide +kernel
theorem dL_law_704 : decode cL_law 704 = .ok (.iconst 5, 1) := by decide +kernel
theorem dL_law_705 : decode cL_law 705 = .ok (.ishr, 1) := by decide +kernel
theorem dL_law_706 : decode cL_law 706 = .ok (.invokestatic 227, 3) := by decide +kernel
theorem dL_law_709 : decode cL_law 709 = .ok (.ifCond .ne 5, 3) := by decide +kernel
theorem dL_law_712 : decode cL_law 712 = .ok (.iconst 0, 1) := by decide +kernel
theorem dL_law_713 : decode cL_law 713 = .ok (.ireturn, 1) := by decide +kernel
theorem dL_law_714 : decode cL_law 714 = .ok (.iinc 3 1, 3) := by decide +kernel
theorem dL_law_717 : decode cL_law 717 = .ok (.goto (-660), 3) := by decide +kernel
theorem dL_law_720 : decode cL_law 720 = .ok (.aload_n 1, 1) := by decide +kernel
theorem dL_law_721 : decode cL_law 721 = .ok (.invokestatic 230, 3) := by decide +kernel
theorem dL_law_724 : decode cL_law 724 = .ok (.ifCond .eq 14, 3) := by decide +kernel
theorem dL_law_727 : decode cL_law 727 = .ok (.aload_n 1, 1) := by decide +kernel
theorem dL_law_728 : decode cL_law 728 = .ok (.invokestatic 210, 3) := by decide +kernel
theorem dL_law_731 : decode cL_law 731 = .ok (.ifCond .eq 7, 3) := by decide +kernel
theorem dL_law_734 : decode cL_law 734 = .ok (.iconst 1, 1) := by decide +kernel
theorem dL_law_735 : decode cL_law 735 = .ok (.goto 4, 3) := by decide +kernel
theorem dL_law_738 : decode cL_law 738 = .ok (.iconst 0, 1) := by decide +kernel
theorem dL_law_739 : decode cL_law 739 = .ok (.ireturn, 1) := by decide +kernel
theorem dL_edge_0 : decode cL_edge 0 = .ok (.iconst 1, 1) := by decide +kernel
theorem dL_edge_1 : decode cL_edge 1 = .ok (.istore_n 1, 1) := by decide +kernel
theorem dL_edge_2 : decode cL_edge 2 = .ok (.iconst 0, 1) := by decide +kernel
theorem dL_edge_3 : decode cL_edge 3 = .ok (.istore_n 2, 1) := by decide +kernel
theorem dL_edge_4 : decode cL_edge 4 = .ok (.iload_n 2, 1) := by decide +kernel
theorem dL_edge_5 : decode cL_edge 5 = .ok (.aload_n 0, 1) := by decide +kernel
theorem dL_edge_6 : decode cL_edge 6 = .ok (.iconst 0, 1) := by decide +kernel
theorem dL_edge_7 : decode cL_edge 7 = .ok (.invokestatic 101, 3) := by decide +kernel
theorem dL_edge_10 : decode cL_edge 10 = .ok (.if_icmp .ge 41, 3) := by decide +kernel
theorem dL_edge_13 : decode cL_edge 13 = .ok (.iload_n 1, 1) := by decide +kernel
theorem dL_edge_14 : decode cL_edge 14 = .ok (.ifCond .eq 29, 3) := by decide +kernel
theorem dL_edge_17 : decode cL_edge 17 = .ok (.aload_n 0, 1) := by decide +kernel
theorem dL_edge_18 : decode cL_edge 18 = .ok (.iload_n 2, 1) := by decide +kernel
theorem dL_edge_19 : decode cL_edge 19 = .ok (.iconst 0, 1) := by decide +kernel
theorem dL_edge_20 : decode cL_edge 20 = .ok (.invokestatic 117, 3) := by decide +kernel
theorem dL_edge_23 : decode cL_edge 23 = .ok (.bipush 26, 2) := by decide +kernel
theorem dL_edge_25 : decode cL_edge 25 = .ok (.if_icmp .le 18, 3) := by decide +kernel
theorem dL_edge_28 : decode cL_edge 28 = .ok (.aload_n 0, 1) := by decide +kernel
theorem dL_edge_29 : decode cL_edge 29 = .ok (.iload_n 2, 1) := by decide +kernel
theorem dL_edge_30 : decode cL_edge 30 = .ok (.iconst 0, 1) := by decide +kernel
theorem dL_edge_31 : decode cL_edge 31 = .ok (.invokestatic 117, 3) := by decide +kernel
theorem dL_edge_34 : decode cL_edge 34 = .ok (.bipush 37, 2) := by decide +kernel
theorem dL_edge_36 : decode cL_edge 36 = .ok (.if_icmp .ge 7, 3) := by decide +kernel
theorem dL_edge_39 : decode cL_edge 39 = .ok (.iconst 1, 1) := by decide +kernel
theorem dL_edge_40 : decode cL_edge 40 = .ok (.goto 4, 3) := by decide +kernel
theorem dL_edge_43 : decode cL_edge 43 = .ok (.iconst 0, 1) := by decide +kernel
theorem dL_edge_44 : decode cL_edge 44 = .ok (.istore_n 1, 1) := by decide +kernel
theorem dL_edge_45 : decode cL_edge 45 = .ok (.iinc 2 1, 3) := by decide +kernel
theorem dL_edge_48 : decode cL_edge 48 = .ok (.goto (-44), 3) := by decide +kernel
theorem dL_edge_51 : decode cL_edge 51 = .ok (.iload_n 1, 1) := by decide +kernel
theorem dL_edge_52 : decode cL_edge 52 = .ok (.ireturn, 1) := by decide +kernel
