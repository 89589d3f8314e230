theorem dL_below_0 : decode cL_below 0 = .ok (.iload_n 0, 1) := by decide +kernel
theorem dL_below_1 : decode cL_below 1 = .ok (.ldc 7, 2) := by decide +kernel
theorem dL_below_3 : decode cL_below 3 = .ok (.iand, 1) := by decide +kernel
theorem dL_below_4 : decode cL_below 4 = .ok (.iload_n 1, 1) := by decide +kernel
theorem dL_below_5 : decode cL_below 5 = .ok (.irem, 1) := by decide +kernel
theorem dL_below_6 : decode cL_below 6 = .ok (.ireturn, 1) := by decide +kernel
theorem dL_cell_0 : decode cL_cell 0 = .ok (.iload_n 1, 1) := by decide +kernel
theorem dL_cell_1 : decode cL_cell 1 = .ok (.aload_n 0, 1) := by decide +kernel
theorem dL_cell_2 : decode cL_cell 2 = .ok (.arraylength, 1) := by decide +kernel
theorem dL_cell_3 : decode cL_cell 3 = .ok (.if_icmp .ge 9, 3) := by decide +kernel
theorem dL_cell_6 : decode cL_cell 6 = .ok (.aload_n 0, 1) := by decide +kernel
theorem dL_cell_7 : decode cL_cell 7 = .ok (.iload_n 1, 1) := by decide +kernel
theorem dL_cell_8 : decode cL_cell 8 = .ok (.iaload, 1) := by decide +kernel
theorem dL_cell_9 : decode cL_cell 9 = .ok (.goto 9, 3) := by decide +kernel
theorem dL_cell_12 : decode cL_cell 12 = .ok (.ldc 8, 2) := by decide +kernel
theorem dL_cell_14 : decode cL_cell 14 = .ok (.iload_n 1, 1) := by decide +kernel
theorem dL_cell_15 : decode cL_cell 15 = .ok (.iconst 3, 1) := by decide +kernel
theorem dL_cell_16 : decode cL_cell 16 = .ok (.iadd, 1) := by decide +kernel
theorem dL_cell_17 : decode cL_cell 17 = .ok (.imul, 1) := by decide +kernel
theorem dL_cell_18 : decode cL_cell 18 = .ok (.ireturn, 1) := by decide +kernel
theorem dL_law_0 : decode cL_law 0 = .ok (.new 9, 3) := by decide +kernel
theorem dL_law_3 : decode cL_law 3 = .ok (.dup, 1) := by decide +kernel
theorem dL_law_4 : decode cL_law 4 = .ok (.invokespecial 11, 3) := by decide +kernel
theorem dL_law_7 : decode cL_law 7 = .ok (.astore_n 1, 1) := by decide +kernel
theorem dL_law_8 : decode cL_law 8 = .ok (.iconst 2, 1) := by decide +kernel
theorem dL_law_9 : decode cL_law 9 = .ok (.aload_n 0, 1) := by decide +kernel
theorem dL_law_10 : decode cL_law 10 = .ok (.iconst 0, 1) := by decide +kernel
theorem dL_law_11 : decode cL_law 11 = .ok (.invokestatic 12, 3) := by decide +kernel
theorem dL_law_14 : decode cL_law 14 = .ok (.bipush 7, 2) := by decide +kernel
theorem dL_law_16 : decode cL_law 16 = .ok (.invokestatic 18, 3) := by decide +kernel
theorem dL_law_19 : decode cL_law 19 = .ok (.iadd, 1) := by decide +kernel
theorem dL_law_20 : decode cL_law 20 = .ok (.istore_n 2, 1) := by decide +kernel
theorem dL_law_21 : decode cL_law 21 = .ok (.iload_n 2, 1) := by decide +kernel
theorem dL_law_22 : decode cL_law 22 = .ok (.newarray .int, 2) := by decide +kernel
theorem dL_law_24 : decode cL_law 24 = .ok (.astore_n 3, 1) := by decide +kernel
theorem dL_law_25 : decode cL_law 25 = .ok (.iconst 0, 1) := by decide +kernel
theorem dL_law_26 : decode cL_law 26 = .ok (.istore 4, 2) := by decide +kernel
theorem dL_law_28 : decode cL_law 28 = .ok (.iload 4, 2) := by decide +kernel
theorem dL_law_30 : decode cL_law 30 = .ok (.iload_n 2, 1) := by decide +kernel
theorem dL_law_31 : decode cL_law 31 = .ok (.if_icmp .ge 42, 3) := by decide +kernel
theorem dL_law_34 : decode cL_law 34 = .ok (.aload_n 3, 1) := by decide +kernel
theorem dL_law_35 : decode cL_law 35 = .ok (.iload 4, 2) := by decide +kernel
theorem dL_law_37 : decode cL_law 37 = .ok (.iconst 2, 1) := by decide +kernel
theorem dL_law_38 : decode cL_law 38 = .ok (.aload_n 0, 1) := by decide +kernel
theorem dL_law_39 : decode cL_law 39 = .ok (.iload 4, 2) := by decide +kernel
theorem dL_law_41 : decode cL_law 41 = .ok (.invokestatic 12, 3) := by decide +kernel
theorem dL_law_44 : decode cL_law 44 = .ok (.iconst 4, 1) := by decide +kernel
theorem dL_law_45 : decode cL_law 45 = .ok (.ishr, 1) := by decide +kernel
theorem dL_law_46 : decode cL_law 46 = .ok (.iconst 4, 1) := by decide +kernel
theorem dL_law_47 : decode cL_law 47 = .ok (.invokestatic 18, 3) := by decide +kernel
theorem dL_law_50 : decode cL_law 50 = .ok (.iadd, 1) := by decide +kernel
theorem dL_law_51 : decode cL_law 51 = .ok (.iastore, 1) := by decide +kernel
theorem dL_law_52 : decode cL_law 52 = .ok (.aload_n 1, 1) := by decide +kernel
theorem dL_law_53 : decode cL_law 53 = .ok (.aload_n 3, 1) := by decide +kernel
theorem dL_law_54 : decode cL_law 54 = .ok (.iload 4, 2) := by decide +kernel
theorem dL_law_56 : decode cL_law 56 = .ok (.iaload, 1) := by decide +kernel
theorem dL_law_57 : decode cL_law 57 = .ok (.invokevirtual 22, 3) := by decide +kernel
theorem dL_law_60 : decode cL_law 60 = .ok (.iload 4, 2) := by decide +kernel
theorem dL_law_62 : decode cL_law 62 = .ok (.if_icmp .eq 5, 3) := by decide +kernel
theorem dL_law_65 : decode cL_law 65 = .ok (.iconst 0, 1) := by decide +kernel
theorem dL_law_66 : decode cL_law 66 = .ok (.ireturn, 1) := by decide +kernel
theorem dL_law_67 : decode cL_law 67 = .ok (.iinc 4 1, 3) := by decide +kernel
theorem dL_law_70 : decode cL_law 70 = .ok (.goto (-42), 3) := by decide +kernel
theorem dL_law_73 : decode cL_law 73 = .ok (.iconst 0, 1) := by decide +kernel
theorem dL_law_74 : decode cL_law 74 = .ok (.istore 4, 2) := by decide +kernel
theorem dL_law_76 : decode cL_law 76 = .ok (.iload 4, 2) := by decide +kernel
theorem dL_law_78 : decode cL_law 78 = .ok (.iconst 5, 1) := by decide +kernel
theorem dL_law_79 : decode cL_law 79 = .ok (.if_icmp .ge 76, 3) := by decide +kernel
theorem dL_law_82 : decode cL_law 82 = .ok (.aload_n 0, 1) := by decide +kernel
theorem dL_law_83 : decode cL_law 83 = .ok (.iload 4, 2) := by decide +kernel
theorem dL_law_85 : decode cL_law 85 = .ok (.iconst 2, 1) := by decide +kernel
theorem dL_law_86 : decode cL_law 86 = .ok (.iadd, 1) := by decide +kernel
theorem dL_law_87 : decode cL_law 87 = .ok (.invokestatic 12, 3) := by decide +kernel
theorem dL_law_90 : decode cL_law 90 = .ok (.iload_n 2, 1) := by decide +kernel
theorem dL_law_91 : decode cL_law 91 = .ok (.invokestatic 18, 3) := by decide +kernel
theorem dL_law_94 : decode cL_law 94 = .ok (.istore 5, 2) := by decide +kernel
theorem dL_law_96 : decode cL_law 96 = .ok (.iload 5, 2) := by decide +kernel
theorem dL_law_98 : decode cL_law 98 = .ok (.iconst 1, 1) := by decide +kernel
theorem dL_law_99 : decode cL_law 99 = .ok (.iadd, 1) := by decide +kernel
theorem dL_law_100 : decode cL_law 100 = .ok (.aload_n 0, 1) := by decide +kernel
theorem dL_law_101 : decode cL_law 101 = .ok (.iload 4, 2) := by decide +kernel
theorem dL_law_103 : decode cL_law 103 = .ok (.iconst 3, 1) := by decide +kernel
theorem dL_law_104 : decode cL_law 104 = .ok (.iadd, 1) := by decide +kernel
theorem dL_law_105 : decode cL_law 105 = .ok (.invokestatic 12, 3) := by decide +kernel
theorem dL_law_108 : decode cL_law 108 = .ok (.iconst 3, 1) := by decide +kernel
theorem dL_law_109 : decode cL_law 109 = .ok (.invokestatic 18, 3) := by decide +kernel
theorem dL_law_112 : decode cL_law 112 = .ok (.iadd, 1) := by decide +kernel
theorem dL_law_113 : decode cL_law 113 = .ok (.istore 6, 2) := by decide +kernel
theorem dL_law_115 : decode cL_law 115 = .ok (.aload_n 1, 1) := by decide +kernel
theorem dL_law_116 : decode cL_law 116 = .ok (.iload 5, 2) := by decide +kernel
theorem dL_law_118 : decode cL_law 118 = .ok (.aload_n 0, 1) := by decide +kernel
theorem dL_law_119 : decode cL_law 119 = .ok (.iload 4, 2) := by decide +kernel
theorem dL_law_121 : decode cL_law 121 = .ok (.iconst 4, 1) := by decide +kernel
theorem dL_law_122 : decode cL_law 122 = .ok (.iadd, 1) := by decide +kernel
theorem dL_law_123 : decode cL_law 123 = .ok (.invokestatic 12, 3) := by decide +kernel
theorem dL_law_126 : decode cL_law 126 = .ok (.aload_n 3, 1) := by decide +kernel
theorem dL_law_127 : decode cL_law 127 = .ok (.iload 5, 2) := by decide +kernel
theorem dL_law_129 : decode cL_law 129 = .ok (.iaload, 1) := by decide +kernel
theorem dL_law_130 : decode cL_law 130 = .ok (.invokestatic 18, 3) := by decide +kernel
theorem dL_law_133 : decode cL_law 133 = .ok (.iload 6, 2) := by decide +kernel
theorem dL_law_135 : decode cL_law 135 = .ok (.iload_n 2, 1) := by decide +kernel
theorem dL_law_136 : decode cL_law 136 = .ok (.if_icmp .ge 8, 3) := by decide +kernel
theorem dL_law_139 : decode cL_law 139 = .ok (.iload 6, 2) := by decide +kernel
theorem dL_law_141 : decode cL_law 141 = .ok (.goto 4, 3) := by decide +kernel
theorem dL_law_144 : decode cL_law 144 = .ok (.iconst (-1), 1) := by decide +kernel
theorem dL_law_145 : decode cL_law 145 = .ok (.invokevirtual 26, 3) := by decide +kernel
theorem dL_law_148 : decode cL_law 148 = .ok (.pop, 1) := by decide +kernel
theorem dL_law_149 : decode cL_law 149 = .ok (.iinc 4 1, 3) := by decide +kernel
theorem dL_law_152 : decode cL_law 152 = .ok (.goto (-76), 3) := by decide +kernel
theorem dL_law_155 : decode cL_law 155 = .ok (.aload_n 1, 1) := by decide +kernel
theorem dL_law_156 : decode cL_law 156 = .ok (.aload_n 0, 1) := by decide +kernel
theorem dL_law_157 : decode cL_law 157 = .ok (.bipush 9, 2) := by decide +kernel
theorem dL_law_159 : decode cL_law 159 = .ok (.invokestatic 12, 3) := by decide +kernel
theorem dL_law_162 : decode cL_law 162 = .ok (.iconst 3, 1) := by decide +kernel
theorem dL_law_163 : decode cL_law 163 = .ok (.invokestatic 18, 3) := by decide +kernel
theorem dL_law_166 : decode cL_law 166 = .ok (.invokevirtual 30, 3) := by decide +kernel
theorem dL_law_169 : decode cL_law 169 = .ok (.ifCond .eq 5, 3) := by decide +kernel
theorem dL_law_172 : decode cL_law 172 = .ok (.iconst 0, 1) := by decide +kernel
theorem dL_law_173 : decode cL_law 173 = .ok (.ireturn, 1) := by decide +kernel
theorem dL_law_174 : decode cL_law 174 = .ok (.bipush 6, 2) := by decide +kernel
theorem dL_law_176 : decode cL_law 176 = .ok (.aload_n 0, 1) := by decide +kernel
theorem dL_law_177 : decode cL_law 177 = .ok (.iconst 1, 1) := by decide +kernel
theorem dL_law_178 : decode cL_law 178 = .ok (.invokestatic 12, 3) := by decide +kernel
theorem dL_law_181 : decode cL_law 181 = .ok (.bipush 15, 2) := by decide +kernel
theorem dL_law_183 : decode cL_law 183 = .ok (.invokestatic 18, 3) := by decide +kernel
theorem dL_law_186 : decode cL_law 186 = .ok (.iadd, 1) := by decide +kernel
theorem dL_law_187 : decode cL_law 187 = .ok (.istore 4, 2) := by decide +kernel
theorem dL_law_189 : decode cL_law 189 = .ok (.iconst 0, 1) := by decide +kernel
theorem dL_law_190 : decode cL_law 190 = .ok (.istore 5, 2) := by decide +kernel
theorem dL_law_192 : decode cL_law 192 = .ok (.iload 5, 2) := by decide +kernel
theorem dL_law_194 : decode cL_law 194 = .ok (.iload 4, 2) := by decide +kernel
theorem dL_law_196 : decode cL_law 196 = .ok (.if_icmp .ge 59, 3) := by decide +kernel
theorem dL_law_199 : decode cL_law 199 = .ok (.aload_n 1, 1) := by decide +kernel
theorem dL_law_200 : decode cL_law 200 = .ok (.aload_n 0, 1) := by decide +kernel
theorem dL_law_201 : decode cL_law 201 = .ok (.iload 5, 2) := by decide +kernel
theorem dL_law_203 : decode cL_law 203 = .ok (.bipush 16, 2) := by decide +kernel
theorem dL_law_205 : decode cL_law 205 = .ok (.irem, 1) := by decide +kernel
theorem dL_law_206 : decode cL_law 206 = .ok (.invokestatic 12, 3) := by decide +kernel
theorem dL_law_209 : decode cL_law 209 = .ok (.iload 5, 2) := by decide +kernel
theorem dL_law_211 : decode cL_law 211 = .ok (.iconst 5, 1) := by decide +kernel
theorem dL_law_212 : decode cL_law 212 = .ok (.irem, 1) := by decide +kernel
theorem dL_law_213 : decode cL_law 213 = .ok (.ishr, 1) := by decide +kernel
theorem dL_law_214 : decode cL_law 214 = .ok (.iconst 3, 1) := by decide +kernel
theorem dL_law_215 : decode cL_law 215 = .ok (.invokestatic 18, 3) := by decide +kernel
theorem dL_law_218 : decode cL_law 218 = .ok (.aload_n 0, 1) := by decide +kernel
theorem dL_law_219 : decode cL_law 219 = .ok (.iload 5, 2) := by decide +kernel
theorem dL_law_221 : decode cL_law 221 = .ok (.bipush 16, 2) := by decide +kernel
theorem dL_law_223 : decode cL_law 223 = .ok (.irem, 1) := by decide +kernel
theorem dL_law_224 : decode cL_law 224 = .ok (.invokestatic 12, 3) := by decide +kernel
theorem dL_law_227 : decode cL_law 227 = .ok (.iconst 3, 1) := by decide +kernel
theorem dL_law_228 : decode cL_law 228 = .ok (.iload 5, 2) := by decide +kernel
theorem dL_law_230 : decode cL_law 230 = .ok (.bipush 7, 2) := by decide +kernel
theorem dL_law_232 : decode cL_law 232 = .ok (.irem, 1) := by decide +kernel
theorem dL_law_233 : decode cL_law 233 = .ok (.iadd, 1) := by decide +kernel
theorem dL_law_234 : decode cL_law 234 = .ok (.ishr, 1) := by decide +kernel
theorem dL_law_235 : decode cL_law 235 = .ok (.iconst 2, 1) := by decide +kernel
theorem dL_law_236 : decode cL_law 236 = .ok (.invokestatic 18, 3) := by decide +kernel
theorem dL_law_239 : decode cL_law 239 = .ok (.invokevirtual 33, 3) := by decide +kernel
theorem dL_law_242 : decode cL_law 242 = .ok (.iload 5, 2) := by decide +kernel
theorem dL_law_244 : decode cL_law 244 = .ok (.if_icmp .eq 5, 3) := by decide +kernel
theorem dL_law_247 : decode cL_law 247 = .ok (.iconst 0, 1) := by decide +kernel
theorem dL_law_248 : decode cL_law 248 = .ok (.ireturn, 1) := by decide +kernel
theorem dL_law_249 : decode cL_law 249 = .ok (.iinc 5 1, 3) := by decide +kernel
theorem dL_law_252 : decode cL_law 252 = .ok (.goto (-60), 3) := by decide +kernel
theorem dL_law_255 : decode cL_law 255 = .ok (.iconst 0, 1) := by decide +kernel
theorem dL_law_256 : decode cL_law 256 = .ok (.istore 5, 2) := by decide +kernel
theorem dL_law_258 : decode cL_law 258 = .ok (.iload 5, 2) := by decide +kernel
theorem dL_law_260 : decode cL_law 260 = .ok (.iconst 3, 1) := by decide +kernel
theorem dL_law_261 : decode cL_law 261 = .ok (.if_icmp .ge 54, 3) := by decide +kernel
theorem dL_law_264 : decode cL_law 264 = .ok (.iconst 0, 1) := by decide +kernel
theorem dL_law_265 : decode cL_law 265 = .ok (.istore 6, 2) := by decide +kernel
theorem dL_law_267 : decode cL_law 267 = .ok (.iload 6, 2) := by decide +kernel
theorem dL_law_269 : decode cL_law 269 = .ok (.iconst 2, 1) := by decide +kernel
theorem dL_law_270 : decode cL_law 270 = .ok (.if_icmp .ge 39, 3) := by decide +kernel
theorem dL_law_273 : decode cL_law 273 = .ok (.aload_n 1, 1) := by decide +kernel
theorem dL_law_274 : decode cL_law 274 = .ok (.iload 5, 2) := by decide +kernel
theorem dL_law_276 : decode cL_law 276 = .ok (.iload 6, 2) := by decide +kernel
theorem dL_law_278 : decode cL_law 278 = .ok (.aload_n 0, 1) := by decide +kernel
theorem dL_law_279 : decode cL_law 279 = .ok (.iconst 3, 1) := by decide +kernel
theorem dL_law_280 : decode cL_law 280 = .ok (.iload 6, 2) := by decide +kernel
theorem dL_law_282 : decode cL_law 282 = .ok (.imul, 1) := by decide +kernel
theorem dL_law_283 : decode cL_law 283 = .ok (.iload 5, 2) := by decide +kernel
theorem dL_law_285 : decode cL_law 285 = .ok (.iadd, 1) := by decide +kernel
theorem dL_law_286 : decode cL_law 286 = .ok (.invokestatic 12, 3) := by decide +kernel
theorem dL_law_289 : decode cL_law 289 = .ok (.iconst 2, 1) := by decide +kernel
theorem dL_law_290 : decode cL_law 290 = .ok (.ishr, 1) := by decide +kernel
theorem dL_law_291 : decode cL_law 291 = .ok (.iconst 5, 1) := by decide +kernel
theorem dL_law_292 : decode cL_law 292 = .ok (.invokestatic 18, 3) := by decide +kernel
theorem dL_law_295 : decode cL_law 295 = .ok (.invokevirtual 36, 3) := by decide +kernel
theorem dL_law_298 : decode cL_law 298 = .ok (.ifCond .eq 5, 3) := by decide +kernel
theorem dL_law_301 : decode cL_law 301 = .ok (.iconst 0, 1) := by decide +kernel
theorem dL_law_302 : decode cL_law 302 = .ok (.ireturn, 1) := by decide +kernel
theorem dL_law_303 : decode cL_law 303 = .ok (.iinc 6 1, 3) := by decide +kernel
theorem dL_law_306 : decode cL_law 306 = .ok (.goto (-39), 3) := by decide +kernel
theorem dL_law_309 : decode cL_law 309 = .ok (.iinc 5 1, 3) := by decide +kernel
theorem dL_law_312 : decode cL_law 312 = .ok (.goto (-54), 3) := by decide +kernel
theorem dL_law_315 : decode cL_law 315 = .ok (.aload_n 1, 1) := by decide +kernel
theorem dL_law_316 : decode cL_law 316 = .ok (.aload_n 0, 1) := by decide +kernel
theorem dL_law_317 : decode cL_law 317 = .ok (.bipush 6, 2) := by decide +kernel
theorem dL_law_319 : decode cL_law 319 = .ok (.invokestatic 12, 3) := by decide +kernel
theorem dL_law_322 : decode cL_law 322 = .ok (.iconst 4, 1) := by decide +kernel
theorem dL_law_323 : decode cL_law 323 = .ok (.invokestatic 18, 3) := by decide +kernel
theorem dL_law_326 : decode cL_law 326 = .ok (.invokevirtual 39, 3) := by decide +kernel
theorem dL_law_329 : decode cL_law 329 = .ok (.ifCond .eq 5, 3) := by decide +kernel
theorem dL_law_332 : decode cL_law 332 = .ok (.iconst 0, 1) := by decide +kernel
theorem dL_law_333 : decode cL_law 333 = .ok (.ireturn, 1) := by decide +kernel
theorem dL_law_334 : decode cL_law 334 = .ok (.iload_n 2, 1) := by decide +kernel
theorem dL_law_335 : decode cL_law 335 = .ok (.newarray .int, 2) := by decide +kernel
theorem dL_law_337 : decode cL_law 337 = .ok (.astore 5, 2) := by decide +kernel
theorem dL_law_339 : decode cL_law 339 = .ok (.iconst 0, 1) := by decide +kernel
theorem dL_law_340 : decode cL_law 340 = .ok (.istore 6, 2) := by decide +kernel
theorem dL_law_342 : decode cL_law 342 = .ok (.iload 6, 2) := by decide +kernel
theorem dL_law_344 : decode cL_law 344 = .ok (.bipush 70, 2) := by decide +kernel
theorem dL_law_346 : decode cL_law 346 = .ok (.if_icmp .ge 451, 3) := by decide +kernel
theorem dL_law_349 : decode cL_law 349 = .ok (.aload_n 0, 1) := by decide +kernel
theorem dL_law_350 : decode cL_law 350 = .ok (.iload 6, 2) := by decide +kernel
theorem dL_law_352 : decode cL_law 352 = .ok (.bipush 16, 2) := by decide +kernel
theorem dL_law_354 : decode cL_law 354 = .ok (.irem, 1) := by decide +kernel
theorem dL_law_355 : decode cL_law 355 = .ok (.invokestatic 12, 3) := by decide +kernel
theorem dL_law_358 : decode cL_law 358 = .ok (.iload 6, 2) := by decide +kernel
theorem dL_law_360 : decode cL_law 360 = .ok (.bipush 16, 2) := by decide +kernel
theorem dL_law_362 : decode cL_law 362 = .ok (.idiv, 1) := by decide +kernel
theorem dL_law_363 : decode cL_law 363 = .ok (.iconst 2, 1) := by decide +kernel
theorem dL_law_364 : decode cL_law 364 = .ok (.imul, 1) := by decide +kernel
theorem dL_law_365 : decode cL_law 365 = .ok (.ishr, 1) := by decide +kernel
theorem dL_law_366 : decode cL_law 366 = .ok (.bipush 7, 2) := by decide +kernel
theorem dL_law_368 : decode cL_law 368 = .ok (.iload 6, 2) := by decide +kernel
theorem dL_law_370 : decode cL_law 370 = .ok (.imul, 1) := by decide +kernel
theorem dL_law_371 : decode cL_law 371 = .ok (.iadd, 1) := by decide +kernel
theorem dL_law_372 : decode cL_law 372 = .ok (.istore 7, 2) := by decide +kernel
theorem dL_law_374 : decode cL_law 374 = .ok (.aload_n 1, 1) := by decide +kernel
theorem dL_law_375 : decode cL_law 375 = .ok (.invokestatic 42, 3) := by decide +kernel
theorem dL_law_378 : decode cL_law 378 = .ok (.istore 8, 2) := by decide +kernel
theorem dL_law_380 : decode cL_law 380 = .ok (.iload 7, 2) := by decide +kernel
theorem dL_law_382 : decode cL_law 382 = .ok (.bipush 10, 2) := by decide +kernel
theorem dL_law_384 : decode cL_law 384 = .ok (.invokestatic 18, 3) := by decide +kernel
theorem dL_law_387 : decode cL_law 387 = .ok (.tableswitch 244 0 4 #[33, 48, 134, 183, 183], 33) := by decide +kernel
theorem dL_law_420 : decode cL_law 420 = .ok (.aload_n 1, 1) := by decide +kernel
theorem dL_law_421 : decode cL_law 421 = .ok (.invokevirtual 46, 3) := by decide +kernel
theorem dL_law_424 : decode cL_law 424 = .ok (.aload_n 1, 1) := by decide +kernel
theorem dL_law_425 : decode cL_law 425 = .ok (.bipush 11, 2) := by decide +kernel
theorem dL_law_427 : decode cL_law 427 = .ok (.invokevirtual 50, 3) := by decide +kernel
theorem dL_law_430 : decode cL_law 430 = .ok (.if_icmp .eq 307, 3) := by decide +kernel
theorem dL_law_433 : decode cL_law 433 = .ok (.iconst 0, 1) := by decide +kernel
theorem dL_law_434 : decode cL_law 434 = .ok (.ireturn, 1) := by decide +kernel
theorem dL_law_435 : decode cL_law 435 = .ok (.iconst 0, 1) := by decide +kernel
theorem dL_law_436 : decode cL_law 436 = .ok (.istore 9, 2) := by decide +kernel
theorem dL_law_438 : decode cL_law 438 = .ok (.iconst 0, 1) := by decide +kernel
theorem dL_law_439 : decode cL_law 439 = .ok (.istore 10, 2) := by decide +kernel
theorem dL_law_441 : decode cL_law 441 = .ok (.iload 10, 2) := by decide +kernel
theorem dL_law_443 : decode cL_law 443 = .ok (.aload_n 1, 1) := by decide +kernel
theorem dL_law_444 : decode cL_law 444 = .ok (.invokestatic 53, 3) := by decide +kernel
theorem dL_law_447 : decode cL_law 447 = .ok (.if_icmp .ge 22, 3) := by decide +kernel
theorem dL_law_450 : decode cL_law 450 = .ok (.iload 9, 2) := by decide +kernel
theorem dL_law_452 : decode cL_law 452 = .ok (.aload_n 1, 1) := by decide +kernel
theorem dL_law_453 : decode cL_law 453 = .ok (.iload 10, 2) := by decide +kernel
theorem dL_law_455 : decode cL_law 455 = .ok (.bipush 6, 2) := by decide +kernel
theorem dL_law_457 : decode cL_law 457 = .ok (.invokevirtual 56, 3) := by decide +kernel
theorem dL_law_460 : decode cL_law 460 = .ok (.iadd, 1) := by decide +kernel
theorem dL_law_461 : decode cL_law 461 = .ok (.istore 9, 2) := by decide +kernel
theorem dL_law_463 : decode cL_law 463 = .ok (.iinc 10 1, 3) := by decide +kernel
theorem dL_law_466 : decode cL_law 466 = .ok (.goto (-25), 3) := by decide +kernel
theorem dL_law_469 : decode cL_law 469 = .ok (.aload_n 1, 1) := by decide +kernel
theorem dL_law_470 : decode cL_law 470 = .ok (.invokevirtual 59, 3) := by decide +kernel
theorem dL_law_473 : decode cL_law 473 = .ok (.istore 10, 2) := by decide +kernel
theorem dL_law_475 : decode cL_law 475 = .ok (.aload_n 1, 1) := by decide +kernel
theorem dL_law_476 : decode cL_law 476 = .ok (.bipush 7, 2) := by decide +kernel
theorem dL_law_478 : decode cL_law 478 = .ok (.invokevirtual 50, 3) := by decide +kernel
theorem dL_law_481 : decode cL_law 481 = .ok (.istore 11, 2) := by decide +kernel
theorem dL_law_483 : decode cL_law 483 = .ok (.iload 10, 2) := by decide +kernel
theorem dL_law_485 : decode cL_law 485 = .ok (.bipush 100, 2) := by decide +kernel
theorem dL_law_487 : decode cL_law 487 = .ok (.irem, 1) := by decide +kernel
theorem dL_law_488 : decode cL_law 488 = .ok (.iload 9, 2) := by decide +kernel
theorem dL_law_490 : decode cL_law 490 = .ok (.if_icmp .ne 29, 3) := by decide +kernel
theorem dL_law_493 : decode cL_law 493 = .ok (.aload_n 1, 1) := by decide +kernel
theorem dL_law_494 : decode cL_law 494 = .ok (.invokevirtual 62, 3) := by decide +kernel
theorem dL_law_497 : decode cL_law 497 = .ok (.iload 9, 2) := by decide +kernel
theorem dL_law_499 : decode cL_law 499 = .ok (.if_icmp .ne 20, 3) := by decide +kernel
theorem dL_law_502 : decode cL_law 502 = .ok (.aload_n 1, 1) := by decide +kernel
theorem dL_law_503 : decode cL_law 503 = .ok (.bipush 7, 2) := by decide +kernel
theorem dL_law_505 : decode cL_law 505 = .ok (.invokevirtual 50, 3) := by decide +kernel
theorem dL_law_508 : decode cL_law 508 = .ok (.iload 11, 2) := by decide +kernel
theorem dL_law_510 : decode cL_law 510 = .ok (.iload 10, 2) := by decide +kernel
theorem dL_law_512 : decode cL_law 512 = .ok (.bipush 100, 2) := by decide +kernel
theorem dL_law_514 : decode cL_law 514 = .ok (.idiv, 1) := by decide +kernel
theorem dL_law_515 : decode cL_law 515 = .ok (.iadd, 1) := by decide +kernel
theorem dL_law_516 : decode cL_law 516 = .ok (.if_icmp .ge 221, 3) := by decide +kernel
theorem dL_law_519 : decode cL_law 519 = .ok (.iconst 0, 1) := by decide +kernel
theorem dL_law_520 : decode cL_law 520 = .ok (.ireturn, 1) := by decide +kernel
theorem dL_law_521 : decode cL_law 521 = .ok (.aload_n 1, 1) := by decide +kernel
theorem dL_law_522 : decode cL_law 522 = .ok (.bipush 10, 2) := by decide +kernel
theorem dL_law_524 : decode cL_law 524 = .ok (.invokevirtual 50, 3) := by decide +kernel
theorem dL_law_527 : decode cL_law 527 = .ok (.ifCond .le 6, 3) := by decide +kernel
theorem dL_law_530 : decode cL_law 530 = .ok (.goto 207, 3) := by decide +kernel
theorem dL_law_533 : decode cL_law 533 = .ok (.iconst 0, 1) := by decide +kernel
theorem dL_law_534 : decode cL_law 534 = .ok (.istore 12, 2) := by decide +kernel
theorem dL_law_536 : decode cL_law 536 = .ok (.iload 12, 2) := by decide +kernel
theorem dL_law_538 : decode cL_law 538 = .ok (.iload_n 2, 1) := by decide +kernel
theorem dL_law_539 : decode cL_law 539 = .ok (.if_icmp .ge 22, 3) := by decide +kernel
theorem dL_law_542 : decode cL_law 542 = .ok (.aload 5, 2) := by decide +kernel
theorem dL_law_544 : decode cL_law 544 = .ok (.iload 12, 2) := by decide +kernel
theorem dL_law_546 : decode cL_law 546 = .ok (.aload_n 1, 1) := by decide +kernel
theorem dL_law_547 : decode cL_law 547 = .ok (.iload 12, 2) := by decide +kernel
theorem dL_law_549 : decode cL_law 549 = .ok (.iconst 0, 1) := by decide +kernel
theorem dL_law_550 : decode cL_law 550 = .ok (.iconst (-1), 1) := by decide +kernel
theorem dL_law_551 : decode cL_law 551 = .ok (.invokevirtual 65, 3) := by decide +kernel
theorem dL_law_554 : decode cL_law 554 = .ok (.iastore, 1) := by decide +kernel
theorem dL_law_555 : decode cL_law 555 = .ok (.iinc 12 1, 3) := by decide +kernel
theorem dL_law_558 : decode cL_law 558 = .ok (.goto (-22), 3) := by decide +kernel
theorem dL_law_561 : decode cL_law 561 = .ok (.aload_n 1, 1) := by decide +kernel
theorem dL_law_562 : decode cL_law 562 = .ok (.invokevirtual 68, 3) := by decide +kernel
theorem dL_law_565 : decode cL_law 565 = .ok (.ifCond .eq 172, 3) := by decide +kernel
theorem dL_law_568 : decode cL_law 568 = .ok (.iconst 0, 1) := by decide +kernel
theorem dL_law_569 : decode cL_law 569 = .ok (.ireturn, 1) := by decide +kernel
theorem dL_law_570 : decode cL_law 570 = .ok (.aload_n 1, 1) := by decide +kernel
theorem dL_law_571 : decode cL_law 571 = .ok (.invokevirtual 71, 3) := by decide +kernel
theorem dL_law_574 : decode cL_law 574 = .ok (.istore 12, 2) := by decide +kernel
theorem dL_law_576 : decode cL_law 576 = .ok (.iload 12, 2) := by decide +kernel
theorem dL_law_578 : decode cL_law 578 = .ok (.ifCond .lt 159, 3) := by decide +kernel
theorem dL_law_581 : decode cL_law 581 = .ok (.aload_n 1, 1) := by decide +kernel
theorem dL_law_582 : decode cL_law 582 = .ok (.invokestatic 53, 3) := by decide +kernel
theorem dL_law_585 : decode cL_law 585 = .ok (.bipush 40, 2) := by decide +kernel
theorem dL_law_587 : decode cL_law 587 = .ok (.if_icmp .ne 6, 3) := by decide +kernel
theorem dL_law_590 : decode cL_law 590 = .ok (.goto 147, 3) := by decide +kernel
theorem dL_law_593 : decode cL_law 593 = .ok (.aload_n 1, 1) := by decide +kernel
theorem dL_law_594 : decode cL_law 594 = .ok (.iload 12, 2) := by decide +kernel
theorem dL_law_596 : decode cL_law 596 = .ok (.iload 4, 2) := by decide +kernel
theorem dL_law_598 : decode cL_law 598 = .ok (.invokestatic 74, 3) := by decide +kernel
theorem dL_law_601 : decode cL_law 601 = .ok (.ifCond .eq 28, 3) := by decide +kernel
theorem dL_law_604 : decode cL_law 604 = .ok (.aload_n 1, 1) := by decide +kernel
theorem dL_law_605 : decode cL_law 605 = .ok (.iload 12, 2) := by decide +kernel
theorem dL_law_607 : decode cL_law 607 = .ok (.invokevirtual 78, 3) := by decide +kernel
theorem dL_law_610 : decode cL_law 610 = .ok (.aload_n 1, 1) := by decide +kernel
theorem dL_law_611 : decode cL_law 611 = .ok (.invokestatic 53, 3) := by decide +kernel
theorem dL_law_614 : decode cL_law 614 = .ok (.iconst 1, 1) := by decide +kernel
theorem dL_law_615 : decode cL_law 615 = .ok (.isub, 1) := by decide +kernel
theorem dL_law_616 : decode cL_law 616 = .ok (.if_icmp .ne 13, 3) := by decide +kernel
theorem dL_law_619 : decode cL_law 619 = .ok (.aload_n 1, 1) := by decide +kernel
theorem dL_law_620 : decode cL_law 620 = .ok (.iload 12, 2) := by decide +kernel
theorem dL_law_622 : decode cL_law 622 = .ok (.iconst 4, 1) := by decide +kernel
theorem dL_law_623 : decode cL_law 623 = .ok (.invokevirtual 81, 3) := by decide +kernel
theorem dL_law_626 : decode cL_law 626 = .ok (.ifCond .eq 111, 3) := by decide +kernel
theorem dL_law_629 : decode cL_law 629 = .ok (.iconst 0, 1) := by decide +kernel
theorem dL_law_630 : decode cL_law 630 = .ok (.ireturn, 1) := by decide +kernel
theorem dL_law_631 : decode cL_law 631 = .ok (.iload 8, 2) := by decide +kernel
theorem dL_law_633 : decode cL_law 633 = .ok (.ifCond .ge 6, 3) := by decide +kernel
theorem dL_law_636 : decode cL_law 636 = .ok (.goto 101, 3) := by decide +kernel
theorem dL_law_639 : decode cL_law 639 = .ok (.aload_n 1, 1) := by decide +kernel
theorem dL_law_640 : decode cL_law 640 = .ok (.iload 8, 2) := by decide +kernel
theorem dL_law_642 : decode cL_law 642 = .ok (.iconst 2, 1) := by decide +kernel
theorem dL_law_643 : decode cL_law 643 = .ok (.invokevirtual 56, 3) := by decide +kernel
theorem dL_law_646 : decode cL_law 646 = .ok (.istore 13, 2) := by decide +kernel
theorem dL_law_648 : decode cL_law 648 = .ok (.iload 7, 2) := by decide +kernel
theorem dL_law_650 : decode cL_law 650 = .ok (.iconst 4, 1) := by decide +kernel
theorem dL_law_651 : decode cL_law 651 = .ok (.ishr, 1) := by decide +kernel
theorem dL_law_652 : decode cL_law 652 = .ok (.aload_n 3, 1) := by decide +kernel
theorem dL_law_653 : decode cL_law 653 = .ok (.iload 13, 2) := by decide +kernel
theorem dL_law_655 : decode cL_law 655 = .ok (.iaload, 1) := by decide +kernel
theorem dL_law_656 : decode cL_law 656 = .ok (.invokestatic 18, 3) := by decide +kernel
theorem dL_law_659 : decode cL_law 659 = .ok (.istore 14, 2) := by decide +kernel
theorem dL_law_661 : decode cL_law 661 = .ok (.aload_n 1, 1) := by decide +kernel
theorem dL_law_662 : decode cL_law 662 = .ok (.iload 8, 2) := by decide +kernel
theorem dL_law_664 : decode cL_law 664 = .ok (.iload 14, 2) := by decide +kernel
theorem dL_law_666 : decode cL_law 666 = .ok (.iconst 1, 1) := by decide +kernel
theorem dL_law_667 : decode cL_law 667 = .ok (.iload 7, 2) := by decide +kernel
theorem dL_law_669 : decode cL_law 669 = .ok (.iconst 5, 1) := by decide +kernel
theorem dL_law_670 : decode cL_law 670 = .ok (.ishr, 1) := by decide +kernel
theorem dL_law_671 : decode cL_law 671 = .ok (.bipush 9, 2) := by decide +kernel
theorem dL_law_673 : decode cL_law 673 = .ok (.invokestatic 18, 3) := by decide +kernel
theorem dL_law_676 : decode cL_law 676 = .ok (.iadd, 1) := by decide +kernel
theorem dL_law_677 : decode cL_law 677 = .ok (.invokevirtual 84, 3) := by decide +kernel
theorem dL_law_680 : decode cL_law 680 = .ok (.istore 15, 2) := by decide +kernel
theorem dL_law_682 : decode cL_law 682 = .ok (.aload_n 1, 1) := by decide +kernel
theorem dL_law_683 : decode cL_law 683 = .ok (.iload 8, 2) := by decide +kernel
theorem dL_law_685 : decode cL_law 685 = .ok (.iload 13, 2) := by decide +kernel
theorem dL_law_687 : decode cL_law 687 = .ok (.invokevirtual 87, 3) := by decide +kernel
theorem dL_law_690 : decode cL_law 690 = .ok (.iload 14, 2) := by decide +kernel
theorem dL_law_692 : decode cL_law 692 = .ok (.if_icmp .ne 43, 3) := by decide +kernel
theorem dL_law_695 : decode cL_law 695 = .ok (.aload_n 1, 1) := by decide +kernel
theorem dL_law_696 : decode cL_law 696 = .ok (.iload 8, 2) := by decide +kernel
theorem dL_law_698 : decode cL_law 698 = .ok (.iconst 2, 1) := by decide +kernel
theorem dL_law_699 : decode cL_law 699 = .ok (.invokevirtual 56, 3) := by decide +kernel
theorem dL_law_702 : decode cL_law 702 = .ok (.iload 15, 2) := by decide +kernel
theorem dL_law_704 : decode cL_law 704 = .ok (.if_icmp .ne 31, 3) := by decide +kernel
theorem dL_law_707 : decode cL_law 707 = .ok (.iload 15, 2) := by decide +kernel
theorem dL_law_709 : decode cL_law 709 = .ok (.ifCond .ge 7, 3) := by decide +kernel
theorem dL_law_712 : decode cL_law 712 = .ok (.iconst 1, 1) := by decide +kernel
theorem dL_law_713 : decode cL_law 713 = .ok (.goto 4, 3) := by decide +kernel
theorem dL_law_716 : decode cL_law 716 = .ok (.iconst 0, 1) := by decide +kernel
theorem dL_law_717 : decode cL_law 717 = .ok (.aload_n 1, 1) := by decide +kernel
theorem dL_law_718 : decode cL_law 718 = .ok (.iload 8, 2) := by decide +kernel
theorem dL_law_720 : decode cL_law 720 = .ok (.iconst 1, 1) := by decide +kernel
theorem dL_law_721 : decode cL_law 721 = .ok (.invokevirtual 56, 3) := by decide +kernel
theorem dL_law_724 : decode cL_law 724 = .ok (.ifCond .eq 7, 3) := by decide +kernel
theorem dL_law_727 : decode cL_law 727 = .ok (.iconst 1, 1) := by decide +kernel
theorem dL_law_728 : decode cL_law 728 = .ok (.goto 4, 3) := by decide +kernel
theorem dL_law_731 : decode cL_law 731 = .ok (.iconst 0, 1) := by decide +kernel
theorem dL_law_732 : decode cL_law 732 = .ok (.if_icmp .eq 5, 3) := by decide +kernel
theorem dL_law_735 : decode cL_law 735 = .ok (.iconst 0, 1) := by decide +kernel
theorem dL_law_736 : decode cL_law 736 = .ok (.ireturn, 1) := by decide +kernel
theorem dL_law_737 : decode cL_law 737 = .ok (.aload_n 1, 1) := by decide +kernel
theorem dL_law_738 : decode cL_law 738 = .ok (.iload 4, 2) := by decide +kernel
theorem dL_law_740 : decode cL_law 740 = .ok (.aload_n 3, 1) := by decide +kernel
theorem dL_law_741 : decode cL_law 741 = .ok (.invokestatic 90, 3) := by decide +kernel
theorem dL_law_744 : decode cL_law 744 = .ok (.ifCond .ne 5, 3) := by decide +kernel
theorem dL_law_747 : decode cL_law 747 = .ok (.iconst 0, 1) := by decide +kernel
theorem dL_law_748 : decode cL_law 748 = .ok (.ireturn, 1) := by decide +kernel
theorem dL_law_749 : decode cL_law 749 = .ok (.iconst 0, 1) := by decide +kernel
theorem dL_law_750 : decode cL_law 750 = .ok (.istore 9, 2) := by decide +kernel
theorem dL_law_752 : decode cL_law 752 = .ok (.iload 9, 2) := by decide +kernel
theorem dL_law_754 : decode cL_law 754 = .ok (.iload_n 2, 1) := by decide +kernel
theorem dL_law_755 : decode cL_law 755 = .ok (.if_icmp .ge 36, 3) := by decide +kernel
theorem dL_law_758 : decode cL_law 758 = .ok (.aload_n 1, 1) := by decide +kernel
theorem dL_law_759 : decode cL_law 759 = .ok (.bipush 10, 2) := by decide +kernel
theorem dL_law_761 : decode cL_law 761 = .ok (.invokevirtual 50, 3) := by decide +kernel
theorem dL_law_764 : decode cL_law 764 = .ok (.ifCond .le 27, 3) := by decide +kernel
theorem dL_law_767 : decode cL_law 767 = .ok (.aload_n 1, 1) := by decide +kernel
theorem dL_law_768 : decode cL_law 768 = .ok (.iconst 0, 1) := by decide +kernel
theorem dL_law_769 : decode cL_law 769 = .ok (.iload 9, 2) := by decide +kernel
theorem dL_law_771 : decode cL_law 771 = .ok (.iconst 0, 1) := by decide +kernel
theorem dL_law_772 : decode cL_law 772 = .ok (.invokevirtual 94, 3) := by decide +kernel
theorem dL_law_775 : decode cL_law 775 = .ok (.aload 5, 2) := by decide +kernel
theorem dL_law_777 : decode cL_law 777 = .ok (.iload 9, 2) := by decide +kernel
theorem dL_law_779 : decode cL_law 779 = .ok (.iaload, 1) := by decide +kernel
theorem dL_law_780 : decode cL_law 780 = .ok (.if_icmp .eq 5, 3) := by decide +kernel
theorem dL_law_783 : decode cL_law 783 = .ok (.iconst 0, 1) := by decide +kernel
theorem dL_law_784 : decode cL_law 784 = .ok (.ireturn, 1) := by decide +kernel
theorem dL_law_785 : decode cL_law 785 = .ok (.iinc 9 1, 3) := by decide +kernel
theorem dL_law_788 : decode cL_law 788 = .ok (.goto (-36), 3) := by decide +kernel
theorem dL_law_791 : decode cL_law 791 = .ok (.iinc 6 1, 3) := by decide +kernel
theorem dL_law_794 : decode cL_law 794 = .ok (.goto (-452), 3) := by decide +kernel
theorem dL_law_797 : decode cL_law 797 = .ok (.aload_n 1, 1) := by decide +kernel
theorem dL_law_798 : decode cL_law 798 = .ok (.invokevirtual 97, 3) := by decide +kernel
theorem dL_law_801 : decode cL_law 801 = .ok (.lstore 6, 2) := by decide +kernel
theorem dL_law_803 : decode cL_law 803 = .ok (.aload_n 1, 1) := by decide +kernel
theorem dL_law_804 : decode cL_law 804 = .ok (.iconst 0, 1) := by decide +kernel
theorem dL_law_805 : decode cL_law 805 = .ok (.invokevirtual 101, 3) := by decide +kernel
theorem dL_law_808 : decode cL_law 808 = .ok (.aload_n 1, 1) := by decide +kernel
theorem dL_law_809 : decode cL_law 809 = .ok (.invokevirtual 71, 3) := by decide +kernel
theorem dL_law_812 : decode cL_law 812 = .ok (.if_icmp .ne 29, 3) := by decide +kernel
theorem dL_law_815 : decode cL_law 815 = .ok (.aload_n 1, 1) := by decide +kernel
theorem dL_law_816 : decode cL_law 816 = .ok (.iconst 3, 1) := by decide +kernel
theorem dL_law_817 : decode cL_law 817 = .ok (.invokevirtual 104, 3) := by decide +kernel
theorem dL_law_820 : decode cL_law 820 = .ok (.aload_n 1, 1) := by decide +kernel
theorem dL_law_821 : decode cL_law 821 = .ok (.invokevirtual 107, 3) := by decide +kernel
theorem dL_law_824 : decode cL_law 824 = .ok (.if_icmp .ne 17, 3) := by decide +kernel
theorem dL_law_827 : decode cL_law 827 = .ok (.aload_n 1, 1) := by decide +kernel
theorem dL_law_828 : decode cL_law 828 = .ok (.invokevirtual 97, 3) := by decide +kernel
theorem dL_law_831 : decode cL_law 831 = .ok (.lload 6, 2) := by decide +kernel
theorem dL_law_833 : decode cL_law 833 = .ok (.lcmp, 1) := by decide +kernel
theorem dL_law_834 : decode cL_law 834 = .ok (.ifCond .ne 7, 3) := by decide +kernel
theorem dL_law_837 : decode cL_law 837 = .ok (.iconst 1, 1) := by decide +kernel
theorem dL_law_838 : decode cL_law 838 = .ok (.goto 4, 3) := by decide +kernel
theorem dL_law_841 : decode cL_law 841 = .ok (.iconst 0, 1) := by decide +kernel
theorem dL_law_842 : decode cL_law 842 = .ok (.ireturn, 1) := by decide +kernel
theorem dL_interviews_0 : decode cL_interviews 0 = .ok (.aload_n 0, 1) := by decide +kernel
theorem dL_interviews_1 : decode cL_interviews 1 = .ok (.iconst 2, 1) := by decide +kernel
theorem dL_interviews_2 : decode cL_interviews 2 = .ok (.invokevirtual 50, 3) := by decide +kernel
theorem dL_interviews_5 : decode cL_interviews 5 = .ok (.aload_n 0, 1) := by decide +kernel
theorem dL_interviews_6 : decode cL_interviews 6 = .ok (.iconst 3, 1) := by decide +kernel
theorem dL_interviews_7 : decode cL_interviews 7 = .ok (.invokevirtual 50, 3) := by decide +kernel
theorem dL_interviews_10 : decode cL_interviews 10 = .ok (.iadd, 1) := by decide +kernel
theorem dL_interviews_11 : decode cL_interviews 11 = .ok (.aload_n 0, 1) := by decide +kernel
theorem dL_interviews_12 : decode cL_interviews 12 = .ok (.iconst 4, 1) := by decide +kernel
theorem dL_interviews_13 : decode cL_interviews 13 = .ok (.invokevirtual 50, 3) := by decide +kernel
theorem dL_interviews_16 : decode cL_interviews 16 = .ok (.iadd, 1) := by decide +kernel
theorem dL_interviews_17 : decode cL_interviews 17 = .ok (.aload_n 0, 1) := by decide +kernel
theorem dL_interviews_18 : decode cL_interviews 18 = .ok (.iconst 5, 1) := by decide +kernel
theorem dL_interviews_19 : decode cL_interviews 19 = .ok (.invokevirtual 50, 3) := by decide +kernel
theorem dL_interviews_22 : decode cL_interviews 22 = .ok (.iadd, 1) := by decide +kernel
theorem dL_interviews_23 : decode cL_interviews 23 = .ok (.ireturn, 1) := by decide +kernel
theorem dL_running_0 : decode cL_running 0 = .ok (.aload_n 0, 1) := by decide +kernel
theorem dL_running_1 : decode cL_running 1 = .ok (.invokestatic 53, 3) := by decide +kernel
theorem dL_running_4 : decode cL_running 4 = .ok (.iconst 1, 1) := by decide +kernel
theorem dL_running_5 : decode cL_running 5 = .ok (.isub, 1) := by decide +kernel
theorem dL_running_6 : decode cL_running 6 = .ok (.istore_n 1, 1) := by decide +kernel
theorem dL_running_7 : decode cL_running 7 = .ok (.iload_n 1, 1) := by decide +kernel
theorem dL_running_8 : decode cL_running 8 = .ok (.ifCond .lt 20, 3) := by decide +kernel
theorem dL_running_11 : decode cL_running 11 = .ok (.aload_n 0, 1) := by decide +kernel
theorem dL_running_12 : decode cL_running 12 = .ok (.iload_n 1, 1) := by decide +kernel
theorem dL_running_13 : decode cL_running 13 = .ok (.iconst 1, 1) := by decide +kernel
theorem dL_running_14 : decode cL_running 14 = .ok (.invokevirtual 56, 3) := by decide +kernel
theorem dL_running_17 : decode cL_running 17 = .ok (.ifCond .ne 5, 3) := by decide +kernel
theorem dL_running_20 : decode cL_running 20 = .ok (.iload_n 1, 1) := by decide +kernel
theorem dL_running_21 : decode cL_running 21 = .ok (.ireturn, 1) := by decide +kernel
theorem dL_running_22 : decode cL_running 22 = .ok (.iinc 1 (-1), 3) := by decide +kernel
theorem dL_running_25 : decode cL_running 25 = .ok (.goto (-18), 3) := by decide +kernel
theorem dL_running_28 : decode cL_running 28 = .ok (.iconst (-1), 1) := by decide +kernel
theorem dL_running_29 : decode cL_running 29 = .ok (.ireturn, 1) := by decide +kernel
theorem dL_lacks_0 : decode cL_lacks 0 = .ok (.aload_n 0, 1) := by decide +kernel
theorem dL_lacks_1 : decode cL_lacks 1 = .ok (.aload_n 0, 1) := by decide +kernel
theorem dL_lacks_2 : decode cL_lacks 2 = .ok (.iload_n 1, 1) := by decide +kernel
theorem dL_lacks_3 : decode cL_lacks 3 = .ok (.iconst 0, 1) := by decide +kernel
theorem dL_lacks_4 : decode cL_lacks 4 = .ok (.invokevirtual 81, 3) := by decide +kernel
theorem dL_lacks_7 : decode cL_lacks 7 = .ok (.aload_n 0, 1) := by decide +kernel
theorem dL_lacks_8 : decode cL_lacks 8 = .ok (.iload_n 1, 1) := by decide +kernel
theorem dL_lacks_9 : decode cL_lacks 9 = .ok (.iconst 1, 1) := by decide +kernel
theorem dL_lacks_10 : decode cL_lacks 10 = .ok (.invokevirtual 81, 3) := by decide +kernel
theorem dL_lacks_13 : decode cL_lacks 13 = .ok (.iconst 0, 1) := by decide +kernel
theorem dL_lacks_14 : decode cL_lacks 14 = .ok (.invokevirtual 110, 3) := by decide +kernel
theorem dL_lacks_17 : decode cL_lacks 17 = .ok (.aload_n 0, 1) := by decide +kernel
theorem dL_lacks_18 : decode cL_lacks 18 = .ok (.aload_n 0, 1) := by decide +kernel
theorem dL_lacks_19 : decode cL_lacks 19 = .ok (.iload_n 1, 1) := by decide +kernel
theorem dL_lacks_20 : decode cL_lacks 20 = .ok (.iconst 0, 1) := by decide +kernel
theorem dL_lacks_21 : decode cL_lacks 21 = .ok (.invokevirtual 81, 3) := by decide +kernel
theorem dL_lacks_24 : decode cL_lacks 24 = .ok (.aload_n 0, 1) := by decide +kernel
theorem dL_lacks_25 : decode cL_lacks 25 = .ok (.iload_n 1, 1) := by decide +kernel
theorem dL_lacks_26 : decode cL_lacks 26 = .ok (.iconst 1, 1) := by decide +kernel
theorem dL_lacks_27 : decode cL_lacks 27 = .ok (.invokevirtual 81, 3) := by decide +kernel
theorem dL_lacks_30 : decode cL_lacks 30 = .ok (.iconst 1, 1) := by decide +kernel
theorem dL_lacks_31 : decode cL_lacks 31 = .ok (.invokevirtual 110, 3) := by decide +kernel
theorem dL_lacks_34 : decode cL_lacks 34 = .ok (.isub, 1) := by decide +kernel
theorem dL_lacks_35 : decode cL_lacks 35 = .ok (.ireturn, 1) := by decide +kernel
theorem dL_isNext_0 : decode cL_isNext 0 = .ok (.aload_n 0, 1) := by decide +kernel
theorem dL_isNext_1 : decode cL_isNext 1 = .ok (.iload_n 1, 1) := by decide +kernel
theorem dL_isNext_2 : decode cL_isNext 2 = .ok (.iconst 4, 1) := by decide +kernel
theorem dL_isNext_3 : decode cL_isNext 3 = .ok (.invokevirtual 81, 3) := by decide +kernel
theorem dL_isNext_6 : decode cL_isNext 6 = .ok (.iconst 1, 1) := by decide +kernel
theorem dL_isNext_7 : decode cL_isNext 7 = .ok (.if_icmp .ne 13, 3) := by decide +kernel
theorem dL_isNext_10 : decode cL_isNext 10 = .ok (.aload_n 0, 1) := by decide +kernel
theorem dL_isNext_11 : decode cL_isNext 11 = .ok (.iload_n 1, 1) := by decide +kernel
theorem dL_isNext_12 : decode cL_isNext 12 = .ok (.iconst 2, 1) := by decide +kernel
theorem dL_isNext_13 : decode cL_isNext 13 = .ok (.invokevirtual 81, 3) := by decide +kernel
theorem dL_isNext_16 : decode cL_isNext 16 = .ok (.iconst 4, 1) := by decide +kernel
theorem dL_isNext_17 : decode cL_isNext 17 = .ok (.if_icmp .le 5, 3) := by decide +kernel
theorem dL_isNext_20 : decode cL_isNext 20 = .ok (.iconst 0, 1) := by decide +kernel
theorem dL_isNext_21 : decode cL_isNext 21 = .ok (.ireturn, 1) := by decide +kernel
theorem dL_isNext_22 : decode cL_isNext 22 = .ok (.iconst 0, 1) := by decide +kernel
theorem dL_isNext_23 : decode cL_isNext 23 = .ok (.istore_n 3, 1) := by decide +kernel
theorem dL_isNext_24 : decode cL_isNext 24 = .ok (.iload_n 3, 1) := by decide +kernel
theorem dL_isNext_25 : decode cL_isNext 25 = .ok (.iload_n 2, 1) := by decide +kernel
theorem dL_isNext_26 : decode cL_isNext 26 = .ok (.if_icmp .ge 86, 3) := by decide +kernel
theorem dL_isNext_29 : decode cL_isNext 29 = .ok (.aload_n 0, 1) := by decide +kernel
theorem dL_isNext_30 : decode cL_isNext 30 = .ok (.iload_n 3, 1) := by decide +kernel
theorem dL_isNext_31 : decode cL_isNext 31 = .ok (.iconst 4, 1) := by decide +kernel
theorem dL_isNext_32 : decode cL_isNext 32 = .ok (.invokevirtual 81, 3) := by decide +kernel
theorem dL_isNext_35 : decode cL_isNext 35 = .ok (.ifCond .ne 6, 3) := by decide +kernel
theorem dL_isNext_38 : decode cL_isNext 38 = .ok (.goto 68, 3) := by decide +kernel
theorem dL_isNext_41 : decode cL_isNext 41 = .ok (.aload_n 0, 1) := by decide +kernel
theorem dL_isNext_42 : decode cL_isNext 42 = .ok (.iload_n 3, 1) := by decide +kernel
theorem dL_isNext_43 : decode cL_isNext 43 = .ok (.invokestatic 113, 3) := by decide +kernel
theorem dL_isNext_46 : decode cL_isNext 46 = .ok (.aload_n 0, 1) := by decide +kernel
theorem dL_isNext_47 : decode cL_isNext 47 = .ok (.iload_n 1, 1) := by decide +kernel
theorem dL_isNext_48 : decode cL_isNext 48 = .ok (.invokestatic 113, 3) := by decide +kernel
theorem dL_isNext_51 : decode cL_isNext 51 = .ok (.isub, 1) := by decide +kernel
theorem dL_isNext_52 : decode cL_isNext 52 = .ok (.istore 4, 2) := by decide +kernel
theorem dL_isNext_54 : decode cL_isNext 54 = .ok (.iload 4, 2) := by decide +kernel
theorem dL_isNext_56 : decode cL_isNext 56 = .ok (.ifCond .gt 48, 3) := by decide +kernel
theorem dL_isNext_59 : decode cL_isNext 59 = .ok (.iload 4, 2) := by decide +kernel
theorem dL_isNext_61 : decode cL_isNext 61 = .ok (.ifCond .ne 18, 3) := by decide +kernel
theorem dL_isNext_64 : decode cL_isNext 64 = .ok (.aload_n 0, 1) := by decide +kernel
theorem dL_isNext_65 : decode cL_isNext 65 = .ok (.iload_n 3, 1) := by decide +kernel
theorem dL_isNext_66 : decode cL_isNext 66 = .ok (.iconst 2, 1) := by decide +kernel
theorem dL_isNext_67 : decode cL_isNext 67 = .ok (.invokevirtual 81, 3) := by decide +kernel
theorem dL_isNext_70 : decode cL_isNext 70 = .ok (.aload_n 0, 1) := by decide +kernel
theorem dL_isNext_71 : decode cL_isNext 71 = .ok (.iload_n 1, 1) := by decide +kernel
theorem dL_isNext_72 : decode cL_isNext 72 = .ok (.iconst 2, 1) := by decide +kernel
theorem dL_isNext_73 : decode cL_isNext 73 = .ok (.invokevirtual 81, 3) := by decide +kernel
theorem dL_isNext_76 : decode cL_isNext 76 = .ok (.if_icmp .lt 28, 3) := by decide +kernel
theorem dL_isNext_79 : decode cL_isNext 79 = .ok (.iload 4, 2) := by decide +kernel
theorem dL_isNext_81 : decode cL_isNext 81 = .ok (.ifCond .ne 25, 3) := by decide +kernel
theorem dL_isNext_84 : decode cL_isNext 84 = .ok (.aload_n 0, 1) := by decide +kernel
theorem dL_isNext_85 : decode cL_isNext 85 = .ok (.iload_n 3, 1) := by decide +kernel
theorem dL_isNext_86 : decode cL_isNext 86 = .ok (.iconst 2, 1) := by decide +kernel
theorem dL_isNext_87 : decode cL_isNext 87 = .ok (.invokevirtual 81, 3) := by decide +kernel
theorem dL_isNext_90 : decode cL_isNext 90 = .ok (.aload_n 0, 1) := by decide +kernel
theorem dL_isNext_91 : decode cL_isNext 91 = .ok (.iload_n 1, 1) := by decide +kernel
theorem dL_isNext_92 : decode cL_isNext 92 = .ok (.iconst 2, 1) := by decide +kernel
theorem dL_isNext_93 : decode cL_isNext 93 = .ok (.invokevirtual 81, 3) := by decide +kernel
theorem dL_isNext_96 : decode cL_isNext 96 = .ok (.if_icmp .ne 10, 3) := by decide +kernel
theorem dL_isNext_99 : decode cL_isNext 99 = .ok (.iload_n 3, 1) := by decide +kernel
theorem dL_isNext_100 : decode cL_isNext 100 = .ok (.iload_n 1, 1) := by decide +kernel
theorem dL_isNext_101 : decode cL_isNext 101 = .ok (.if_icmp .ge 5, 3) := by decide +kernel
theorem dL_isNext_104 : decode cL_isNext 104 = .ok (.iconst 0, 1) := by decide +kernel
theorem dL_isNext_105 : decode cL_isNext 105 = .ok (.ireturn, 1) := by decide +kernel
theorem dL_isNext_106 : decode cL_isNext 106 = .ok (.iinc 3 1, 3) := by decide +kernel
theorem dL_isNext_109 : decode cL_isNext 109 = .ok (.goto (-85), 3) := by decide +kernel
theorem dL_isNext_112 : decode cL_isNext 112 = .ok (.iconst 1, 1) := by decide +kernel
theorem dL_isNext_113 : decode cL_isNext 113 = .ok (.ireturn, 1) := by decide +kernel
theorem dL_isFair_0 : decode cL_isFair 0 = .ok (.iload_n 1, 1) := by decide +kernel
theorem dL_isFair_1 : decode cL_isFair 1 = .ok (.newarray .int, 2) := by decide +kernel
theorem dL_isFair_3 : decode cL_isFair 3 = .ok (.astore_n 3, 1) := by decide +kernel
theorem dL_isFair_4 : decode cL_isFair 4 = .ok (.iconst 0, 1) := by decide +kernel
theorem dL_isFair_5 : decode cL_isFair 5 = .ok (.istore 4, 2) := by decide +kernel
theorem dL_isFair_7 : decode cL_isFair 7 = .ok (.iconst 0, 1) := by decide +kernel
theorem dL_isFair_8 : decode cL_isFair 8 = .ok (.istore 5, 2) := by decide +kernel
theorem dL_isFair_10 : decode cL_isFair 10 = .ok (.iload 5, 2) := by decide +kernel
theorem dL_isFair_12 : decode cL_isFair 12 = .ok (.aload_n 0, 1) := by decide +kernel
theorem dL_isFair_13 : decode cL_isFair 13 = .ok (.invokestatic 53, 3) := by decide +kernel
theorem dL_isFair_16 : decode cL_isFair 16 = .ok (.if_icmp .ge 154, 3) := by decide +kernel
theorem dL_isFair_19 : decode cL_isFair 19 = .ok (.aload_n 0, 1) := by decide +kernel
theorem dL_isFair_20 : decode cL_isFair 20 = .ok (.iload 5, 2) := by decide +kernel
theorem dL_isFair_22 : decode cL_isFair 22 = .ok (.iconst 1, 1) := by decide +kernel
theorem dL_isFair_23 : decode cL_isFair 23 = .ok (.invokevirtual 56, 3) := by decide +kernel
theorem dL_isFair_26 : decode cL_isFair 26 = .ok (.istore 6, 2) := by decide +kernel
theorem dL_isFair_28 : decode cL_isFair 28 = .ok (.aload_n 0, 1) := by decide +kernel
theorem dL_isFair_29 : decode cL_isFair 29 = .ok (.iload 5, 2) := by decide +kernel
theorem dL_isFair_31 : decode cL_isFair 31 = .ok (.iconst 0, 1) := by decide +kernel
theorem dL_isFair_32 : decode cL_isFair 32 = .ok (.invokevirtual 56, 3) := by decide +kernel
theorem dL_isFair_35 : decode cL_isFair 35 = .ok (.istore 7, 2) := by decide +kernel
theorem dL_isFair_37 : decode cL_isFair 37 = .ok (.aload_n 3, 1) := by decide +kernel
theorem dL_isFair_38 : decode cL_isFair 38 = .ok (.iload 7, 2) := by decide +kernel
theorem dL_isFair_40 : decode cL_isFair 40 = .ok (.dup2, 1) := by decide +kernel
theorem dL_isFair_41 : decode cL_isFair 41 = .ok (.iaload, 1) := by decide +kernel
theorem dL_isFair_42 : decode cL_isFair 42 = .ok (.iload 6, 2) := by decide +kernel
theorem dL_isFair_44 : decode cL_isFair 44 = .ok (.iconst 2, 1) := by decide +kernel
theorem dL_isFair_45 : decode cL_isFair 45 = .ok (.if_icmp .ge 7, 3) := by decide +kernel
theorem dL_isFair_48 : decode cL_isFair 48 = .ok (.iconst 1, 1) := by decide +kernel
theorem dL_isFair_49 : decode cL_isFair 49 = .ok (.goto 4, 3) := by decide +kernel
theorem dL_isFair_52 : decode cL_isFair 52 = .ok (.iconst 0, 1) := by decide +kernel
theorem dL_isFair_53 : decode cL_isFair 53 = .ok (.iadd, 1) := by decide +kernel
theorem dL_isFair_54 : decode cL_isFair 54 = .ok (.iastore, 1) := by decide +kernel
theorem dL_isFair_55 : decode cL_isFair 55 = .ok (.iload 4, 2) := by decide +kernel
theorem dL_isFair_57 : decode cL_isFair 57 = .ok (.iload 6, 2) := by decide +kernel
theorem dL_isFair_59 : decode cL_isFair 59 = .ok (.iconst 1, 1) := by decide +kernel
theorem dL_isFair_60 : decode cL_isFair 60 = .ok (.if_icmp .ne 7, 3) := by decide +kernel
theorem dL_isFair_63 : decode cL_isFair 63 = .ok (.iconst 1, 1) := by decide +kernel
theorem dL_isFair_64 : decode cL_isFair 64 = .ok (.goto 4, 3) := by decide +kernel
theorem dL_isFair_67 : decode cL_isFair 67 = .ok (.iconst 0, 1) := by decide +kernel
theorem dL_isFair_68 : decode cL_isFair 68 = .ok (.iadd, 1) := by decide +kernel
theorem dL_isFair_69 : decode cL_isFair 69 = .ok (.istore 4, 2) := by decide +kernel
theorem dL_isFair_71 : decode cL_isFair 71 = .ok (.iload 6, 2) := by decide +kernel
theorem dL_isFair_73 : decode cL_isFair 73 = .ok (.iconst 1, 1) := by decide +kernel
theorem dL_isFair_74 : decode cL_isFair 74 = .ok (.if_icmp .eq 24, 3) := by decide +kernel
theorem dL_isFair_77 : decode cL_isFair 77 = .ok (.aload_n 0, 1) := by decide +kernel
theorem dL_isFair_78 : decode cL_isFair 78 = .ok (.iload 5, 2) := by decide +kernel
theorem dL_isFair_80 : decode cL_isFair 80 = .ok (.iconst 5, 1) := by decide +kernel
theorem dL_isFair_81 : decode cL_isFair 81 = .ok (.invokevirtual 56, 3) := by decide +kernel
theorem dL_isFair_84 : decode cL_isFair 84 = .ok (.aload_n 0, 1) := by decide +kernel
theorem dL_isFair_85 : decode cL_isFair 85 = .ok (.iload 5, 2) := by decide +kernel
theorem dL_isFair_87 : decode cL_isFair 87 = .ok (.bipush 6, 2) := by decide +kernel
theorem dL_isFair_89 : decode cL_isFair 89 = .ok (.invokevirtual 56, 3) := by decide +kernel
theorem dL_isFair_92 : decode cL_isFair 92 = .ok (.iadd, 1) := by decide +kernel
theorem dL_isFair_93 : decode cL_isFair 93 = .ok (.ifCond .eq 5, 3) := by decide +kernel
theorem dL_isFair_96 : decode cL_isFair 96 = .ok (.iconst 0, 1) := by decide +kernel
theorem dL_isFair_97 : decode cL_isFair 97 = .ok (.ireturn, 1) := by decide +kernel
theorem dL_isFair_98 : decode cL_isFair 98 = .ok (.iconst 0, 1) := by decide +kernel
theorem dL_isFair_99 : decode cL_isFair 99 = .ok (.istore 8, 2) := by decide +kernel
theorem dL_isFair_101 : decode cL_isFair 101 = .ok (.iconst 0, 1) := by decide +kernel
theorem dL_isFair_102 : decode cL_isFair 102 = .ok (.istore 9, 2) := by decide +kernel
theorem dL_isFair_104 : decode cL_isFair 104 = .ok (.iload 9, 2) := by decide +kernel
theorem dL_isFair_106 : decode cL_isFair 106 = .ok (.aload_n 2, 1) := by decide +kernel
theorem dL_isFair_107 : decode cL_isFair 107 = .ok (.arraylength, 1) := by decide +kernel
theorem dL_isFair_108 : decode cL_isFair 108 = .ok (.if_icmp .ge 30, 3) := by decide +kernel
theorem dL_isFair_111 : decode cL_isFair 111 = .ok (.iload 8, 2) := by decide +kernel
theorem dL_isFair_113 : decode cL_isFair 113 = .ok (.aload_n 0, 1) := by decide +kernel
theorem dL_isFair_114 : decode cL_isFair 114 = .ok (.iload 5, 2) := by decide +kernel
theorem dL_isFair_116 : decode cL_isFair 116 = .ok (.iload 9, 2) := by decide +kernel
theorem dL_isFair_118 : decode cL_isFair 118 = .ok (.invokevirtual 87, 3) := by decide +kernel
theorem dL_isFair_121 : decode cL_isFair 121 = .ok (.ifCond .ge 7, 3) := by decide +kernel
theorem dL_isFair_124 : decode cL_isFair 124 = .ok (.iconst 0, 1) := by decide +kernel
theorem dL_isFair_125 : decode cL_isFair 125 = .ok (.goto 4, 3) := by decide +kernel
theorem dL_isFair_128 : decode cL_isFair 128 = .ok (.iconst 1, 1) := by decide +kernel
theorem dL_isFair_129 : decode cL_isFair 129 = .ok (.iadd, 1) := by decide +kernel
theorem dL_isFair_130 : decode cL_isFair 130 = .ok (.istore 8, 2) := by decide +kernel
theorem dL_isFair_132 : decode cL_isFair 132 = .ok (.iinc 9 1, 3) := by decide +kernel
theorem dL_isFair_135 : decode cL_isFair 135 = .ok (.goto (-31), 3) := by decide +kernel
theorem dL_isFair_138 : decode cL_isFair 138 = .ok (.iload 8, 2) := by decide +kernel
theorem dL_isFair_140 : decode cL_isFair 140 = .ok (.aload_n 0, 1) := by decide +kernel
theorem dL_isFair_141 : decode cL_isFair 141 = .ok (.iload 5, 2) := by decide +kernel
theorem dL_isFair_143 : decode cL_isFair 143 = .ok (.iconst 3, 1) := by decide +kernel
theorem dL_isFair_144 : decode cL_isFair 144 = .ok (.invokevirtual 56, 3) := by decide +kernel
theorem dL_isFair_147 : decode cL_isFair 147 = .ok (.if_icmp .ne 15, 3) := by decide +kernel
theorem dL_isFair_150 : decode cL_isFair 150 = .ok (.aload_n 0, 1) := by decide +kernel
theorem dL_isFair_151 : decode cL_isFair 151 = .ok (.iload 5, 2) := by decide +kernel
theorem dL_isFair_153 : decode cL_isFair 153 = .ok (.iconst 4, 1) := by decide +kernel
theorem dL_isFair_154 : decode cL_isFair 154 = .ok (.invokevirtual 56, 3) := by decide +kernel
theorem dL_isFair_157 : decode cL_isFair 157 = .ok (.iload 8, 2) := by decide +kernel
theorem dL_isFair_159 : decode cL_isFair 159 = .ok (.if_icmp .ge 5, 3) := by decide +kernel
theorem dL_isFair_162 : decode cL_isFair 162 = .ok (.iconst 0, 1) := by decide +kernel
theorem dL_isFair_163 : decode cL_isFair 163 = .ok (.ireturn, 1) := by decide +kernel
theorem dL_isFair_164 : decode cL_isFair 164 = .ok (.iinc 5 1, 3) := by decide +kernel
theorem dL_isFair_167 : decode cL_isFair 167 = .ok (.goto (-157), 3) := by decide +kernel
theorem dL_isFair_170 : decode cL_isFair 170 = .ok (.iconst 0, 1) := by decide +kernel
theorem dL_isFair_171 : decode cL_isFair 171 = .ok (.istore 5, 2) := by decide +kernel
theorem dL_isFair_173 : decode cL_isFair 173 = .ok (.iconst 0, 1) := by decide +kernel
theorem dL_isFair_174 : decode cL_isFair 174 = .ok (.istore 6, 2) := by decide +kernel
theorem dL_isFair_176 : decode cL_isFair 176 = .ok (.iconst 0, 1) := by decide +kernel
theorem dL_isFair_177 : decode cL_isFair 177 = .ok (.istore 7, 2) := by decide +kernel
theorem dL_isFair_179 : decode cL_isFair 179 = .ok (.iconst 0, 1) := by decide +kernel
theorem dL_isFair_180 : decode cL_isFair 180 = .ok (.istore 8, 2) := by decide +kernel
theorem dL_isFair_182 : decode cL_isFair 182 = .ok (.iload 8, 2) := by decide +kernel
theorem dL_isFair_184 : decode cL_isFair 184 = .ok (.iload_n 1, 1) := by decide +kernel
theorem dL_isFair_185 : decode cL_isFair 185 = .ok (.if_icmp .ge 62, 3) := by decide +kernel
theorem dL_isFair_188 : decode cL_isFair 188 = .ok (.aload_n 3, 1) := by decide +kernel
theorem dL_isFair_189 : decode cL_isFair 189 = .ok (.iload 8, 2) := by decide +kernel
theorem dL_isFair_191 : decode cL_isFair 191 = .ok (.iaload, 1) := by decide +kernel
theorem dL_isFair_192 : decode cL_isFair 192 = .ok (.iconst 1, 1) := by decide +kernel
theorem dL_isFair_193 : decode cL_isFair 193 = .ok (.if_icmp .gt 34, 3) := by decide +kernel
theorem dL_isFair_196 : decode cL_isFair 196 = .ok (.aload_n 3, 1) := by decide +kernel
theorem dL_isFair_197 : decode cL_isFair 197 = .ok (.iload 8, 2) := by decide +kernel
theorem dL_isFair_199 : decode cL_isFair 199 = .ok (.iaload, 1) := by decide +kernel
theorem dL_isFair_200 : decode cL_isFair 200 = .ok (.iconst 1, 1) := by decide +kernel
theorem dL_isFair_201 : decode cL_isFair 201 = .ok (.if_icmp .ne 14, 3) := by decide +kernel
theorem dL_isFair_204 : decode cL_isFair 204 = .ok (.aload_n 0, 1) := by decide +kernel
theorem dL_isFair_205 : decode cL_isFair 205 = .ok (.iload 8, 2) := by decide +kernel
theorem dL_isFair_207 : decode cL_isFair 207 = .ok (.iconst 4, 1) := by decide +kernel
theorem dL_isFair_208 : decode cL_isFair 208 = .ok (.invokevirtual 81, 3) := by decide +kernel
theorem dL_isFair_211 : decode cL_isFair 211 = .ok (.iconst 1, 1) := by decide +kernel
theorem dL_isFair_212 : decode cL_isFair 212 = .ok (.if_icmp .eq 15, 3) := by decide +kernel
theorem dL_isFair_215 : decode cL_isFair 215 = .ok (.aload_n 0, 1) := by decide +kernel
theorem dL_isFair_216 : decode cL_isFair 216 = .ok (.iload 8, 2) := by decide +kernel
theorem dL_isFair_218 : decode cL_isFair 218 = .ok (.iconst 2, 1) := by decide +kernel
theorem dL_isFair_219 : decode cL_isFair 219 = .ok (.invokevirtual 81, 3) := by decide +kernel
theorem dL_isFair_222 : decode cL_isFair 222 = .ok (.bipush 9, 2) := by decide +kernel
theorem dL_isFair_224 : decode cL_isFair 224 = .ok (.if_icmp .le 5, 3) := by decide +kernel
theorem dL_isFair_227 : decode cL_isFair 227 = .ok (.iconst 0, 1) := by decide +kernel
theorem dL_isFair_228 : decode cL_isFair 228 = .ok (.ireturn, 1) := by decide +kernel
theorem dL_isFair_229 : decode cL_isFair 229 = .ok (.iload 5, 2) := by decide +kernel
theorem dL_isFair_231 : decode cL_isFair 231 = .ok (.aload_n 0, 1) := by decide +kernel
theorem dL_isFair_232 : decode cL_isFair 232 = .ok (.iload 8, 2) := by decide +kernel
theorem dL_isFair_234 : decode cL_isFair 234 = .ok (.iconst 3, 1) := by decide +kernel
theorem dL_isFair_235 : decode cL_isFair 235 = .ok (.invokevirtual 81, 3) := by decide +kernel
theorem dL_isFair_238 : decode cL_isFair 238 = .ok (.iadd, 1) := by decide +kernel
theorem dL_isFair_239 : decode cL_isFair 239 = .ok (.istore 5, 2) := by decide +kernel
theorem dL_isFair_241 : decode cL_isFair 241 = .ok (.iinc 8 1, 3) := by decide +kernel
theorem dL_isFair_244 : decode cL_isFair 244 = .ok (.goto (-62), 3) := by decide +kernel
theorem dL_isFair_247 : decode cL_isFair 247 = .ok (.iconst 0, 1) := by decide +kernel
theorem dL_isFair_248 : decode cL_isFair 248 = .ok (.istore 8, 2) := by decide +kernel
theorem dL_isFair_250 : decode cL_isFair 250 = .ok (.iload 8, 2) := by decide +kernel
theorem dL_isFair_252 : decode cL_isFair 252 = .ok (.iconst 3, 1) := by decide +kernel
theorem dL_isFair_253 : decode cL_isFair 253 = .ok (.if_icmp .ge 111, 3) := by decide +kernel
theorem dL_isFair_256 : decode cL_isFair 256 = .ok (.iconst 0, 1) := by decide +kernel
theorem dL_isFair_257 : decode cL_isFair 257 = .ok (.istore 9, 2) := by decide +kernel
theorem dL_isFair_259 : decode cL_isFair 259 = .ok (.iload 9, 2) := by decide +kernel
theorem dL_isFair_261 : decode cL_isFair 261 = .ok (.iconst 2, 1) := by decide +kernel
theorem dL_isFair_262 : decode cL_isFair 262 = .ok (.if_icmp .ge 96, 3) := by decide +kernel
theorem dL_isFair_265 : decode cL_isFair 265 = .ok (.iload 6, 2) := by decide +kernel
theorem dL_isFair_267 : decode cL_isFair 267 = .ok (.aload_n 0, 1) := by decide +kernel
theorem dL_isFair_268 : decode cL_isFair 268 = .ok (.iload 8, 2) := by decide +kernel
theorem dL_isFair_270 : decode cL_isFair 270 = .ok (.iload 9, 2) := by decide +kernel
theorem dL_isFair_272 : decode cL_isFair 272 = .ok (.iconst 1, 1) := by decide +kernel
theorem dL_isFair_273 : decode cL_isFair 273 = .ok (.invokevirtual 110, 3) := by decide +kernel
theorem dL_isFair_276 : decode cL_isFair 276 = .ok (.iadd, 1) := by decide +kernel
theorem dL_isFair_277 : decode cL_isFair 277 = .ok (.istore 6, 2) := by decide +kernel
theorem dL_isFair_279 : decode cL_isFair 279 = .ok (.iload 7, 2) := by decide +kernel
theorem dL_isFair_281 : decode cL_isFair 281 = .ok (.aload_n 0, 1) := by decide +kernel
theorem dL_isFair_282 : decode cL_isFair 282 = .ok (.iload 8, 2) := by decide +kernel
theorem dL_isFair_284 : decode cL_isFair 284 = .ok (.iload 9, 2) := by decide +kernel
theorem dL_isFair_286 : decode cL_isFair 286 = .ok (.iconst 4, 1) := by decide +kernel
theorem dL_isFair_287 : decode cL_isFair 287 = .ok (.invokevirtual 110, 3) := by decide +kernel
theorem dL_isFair_290 : decode cL_isFair 290 = .ok (.iadd, 1) := by decide +kernel
theorem dL_isFair_291 : decode cL_isFair 291 = .ok (.istore 7, 2) := by decide +kernel
theorem dL_isFair_293 : decode cL_isFair 293 = .ok (.aload_n 0, 1) := by decide +kernel
theorem dL_isFair_294 : decode cL_isFair 294 = .ok (.iload 8, 2) := by decide +kernel
theorem dL_isFair_296 : decode cL_isFair 296 = .ok (.iload 9, 2) := by decide +kernel
theorem dL_isFair_298 : decode cL_isFair 298 = .ok (.iconst 2, 1) := by decide +kernel
theorem dL_isFair_299 : decode cL_isFair 299 = .ok (.invokevirtual 110, 3) := by decide +kernel
theorem dL_isFair_302 : decode cL_isFair 302 = .ok (.ifCond .ne 15, 3) := by decide +kernel
theorem dL_isFair_305 : decode cL_isFair 305 = .ok (.aload_n 0, 1) := by decide +kernel
theorem dL_isFair_306 : decode cL_isFair 306 = .ok (.iload 8, 2) := by decide +kernel
theorem dL_isFair_308 : decode cL_isFair 308 = .ok (.iload 9, 2) := by decide +kernel
theorem dL_isFair_310 : decode cL_isFair 310 = .ok (.iconst 4, 1) := by decide +kernel
theorem dL_isFair_311 : decode cL_isFair 311 = .ok (.invokevirtual 110, 3) := by decide +kernel
theorem dL_isFair_314 : decode cL_isFair 314 = .ok (.ifCond .gt 36, 3) := by decide +kernel
theorem dL_isFair_317 : decode cL_isFair 317 = .ok (.aload_n 0, 1) := by decide +kernel
theorem dL_isFair_318 : decode cL_isFair 318 = .ok (.iload 8, 2) := by decide +kernel
theorem dL_isFair_320 : decode cL_isFair 320 = .ok (.iload 9, 2) := by decide +kernel
theorem dL_isFair_322 : decode cL_isFair 322 = .ok (.iconst 1, 1) := by decide +kernel
theorem dL_isFair_323 : decode cL_isFair 323 = .ok (.invokevirtual 110, 3) := by decide +kernel
theorem dL_isFair_326 : decode cL_isFair 326 = .ok (.aload_n 0, 1) := by decide +kernel
theorem dL_isFair_327 : decode cL_isFair 327 = .ok (.iload 8, 2) := by decide +kernel
theorem dL_isFair_329 : decode cL_isFair 329 = .ok (.iload 9, 2) := by decide +kernel
theorem dL_isFair_331 : decode cL_isFair 331 = .ok (.iconst 0, 1) := by decide +kernel
theorem dL_isFair_332 : decode cL_isFair 332 = .ok (.invokevirtual 110, 3) := by decide +kernel
theorem dL_isFair_335 : decode cL_isFair 335 = .ok (.if_icmp .ge 17, 3) := by decide +kernel
theorem dL_isFair_338 : decode cL_isFair 338 = .ok (.aload_n 0, 1) := by decide +kernel
theorem dL_isFair_339 : decode cL_isFair 339 = .ok (.iload 8, 2) := by decide +kernel
theorem dL_isFair_341 : decode cL_isFair 341 = .ok (.iload 9, 2) := by decide +kernel
theorem dL_isFair_343 : decode cL_isFair 343 = .ok (.iconst 2, 1) := by decide +kernel
theorem dL_isFair_344 : decode cL_isFair 344 = .ok (.invokevirtual 110, 3) := by decide +kernel
theorem dL_isFair_347 : decode cL_isFair 347 = .ok (.ifCond .ne 5, 3) := by decide +kernel
theorem dL_isFair_350 : decode cL_isFair 350 = .ok (.iconst 0, 1) := by decide +kernel
theorem dL_isFair_351 : decode cL_isFair 351 = .ok (.ireturn, 1) := by decide +kernel
theorem dL_isFair_352 : decode cL_isFair 352 = .ok (.iinc 9 1, 3) := by decide +kernel
theorem dL_isFair_355 : decode cL_isFair 355 = .ok (.goto (-96), 3) := by decide +kernel
theorem dL_isFair_358 : decode cL_isFair 358 = .ok (.iinc 8 1, 3) := by decide +kernel
theorem dL_isFair_361 : decode cL_isFair 361 = .ok (.goto (-111), 3) := by decide +kernel
theorem dL_isFair_364 : decode cL_isFair 364 = .ok (.iconst 0, 1) := by decide +kernel
theorem dL_isFair_365 : decode cL_isFair 365 = .ok (.istore 8, 2) := by decide +kernel
theorem dL_isFair_367 : decode cL_isFair 367 = .ok (.iload 8, 2) := by decide +kernel
theorem dL_isFair_369 : decode cL_isFair 369 = .ok (.aload_n 2, 1) := by decide +kernel
theorem dL_isFair_370 : decode cL_isFair 370 = .ok (.arraylength, 1) := by decide +kernel
theorem dL_isFair_371 : decode cL_isFair 371 = .ok (.if_icmp .ge 107, 3) := by decide +kernel
theorem dL_isFair_374 : decode cL_isFair 374 = .ok (.iconst 0, 1) := by decide +kernel
theorem dL_isFair_375 : decode cL_isFair 375 = .ok (.istore 9, 2) := by decide +kernel
theorem dL_isFair_377 : decode cL_isFair 377 = .ok (.iconst 0, 1) := by decide +kernel
theorem dL_isFair_378 : decode cL_isFair 378 = .ok (.istore 10, 2) := by decide +kernel
theorem dL_isFair_380 : decode cL_isFair 380 = .ok (.iconst 0, 1) := by decide +kernel
theorem dL_isFair_381 : decode cL_isFair 381 = .ok (.istore 11, 2) := by decide +kernel
theorem dL_isFair_383 : decode cL_isFair 383 = .ok (.iload 11, 2) := by decide +kernel
theorem dL_isFair_385 : decode cL_isFair 385 = .ok (.aload_n 2, 1) := by decide +kernel
theorem dL_isFair_386 : decode cL_isFair 386 = .ok (.iload 8, 2) := by decide +kernel
theorem dL_isFair_388 : decode cL_isFair 388 = .ok (.iaload, 1) := by decide +kernel
theorem dL_isFair_389 : decode cL_isFair 389 = .ok (.if_icmp .ge 45, 3) := by decide +kernel
theorem dL_isFair_392 : decode cL_isFair 392 = .ok (.iload 9, 2) := by decide +kernel
theorem dL_isFair_394 : decode cL_isFair 394 = .ok (.aload_n 0, 1) := by decide +kernel
theorem dL_isFair_395 : decode cL_isFair 395 = .ok (.iload 8, 2) := by decide +kernel
theorem dL_isFair_397 : decode cL_isFair 397 = .ok (.iload 11, 2) := by decide +kernel
theorem dL_isFair_399 : decode cL_isFair 399 = .ok (.iconst (-1), 1) := by decide +kernel
theorem dL_isFair_400 : decode cL_isFair 400 = .ok (.invokevirtual 65, 3) := by decide +kernel
theorem dL_isFair_403 : decode cL_isFair 403 = .ok (.iadd, 1) := by decide +kernel
theorem dL_isFair_404 : decode cL_isFair 404 = .ok (.istore 9, 2) := by decide +kernel
theorem dL_isFair_406 : decode cL_isFair 406 = .ok (.iload 10, 2) := by decide +kernel
theorem dL_isFair_408 : decode cL_isFair 408 = .ok (.aload_n 0, 1) := by decide +kernel
theorem dL_isFair_409 : decode cL_isFair 409 = .ok (.iload 8, 2) := by decide +kernel
theorem dL_isFair_411 : decode cL_isFair 411 = .ok (.iload 11, 2) := by decide +kernel
theorem dL_isFair_413 : decode cL_isFair 413 = .ok (.iconst (-1), 1) := by decide +kernel
theorem dL_isFair_414 : decode cL_isFair 414 = .ok (.invokevirtual 65, 3) := by decide +kernel
theorem dL_isFair_417 : decode cL_isFair 417 = .ok (.ifCond .ge 7, 3) := by decide +kernel
theorem dL_isFair_420 : decode cL_isFair 420 = .ok (.iconst 1, 1) := by decide +kernel
theorem dL_isFair_421 : decode cL_isFair 421 = .ok (.goto 4, 3) := by decide +kernel
theorem dL_isFair_424 : decode cL_isFair 424 = .ok (.iconst 0, 1) := by decide +kernel
theorem dL_isFair_425 : decode cL_isFair 425 = .ok (.iadd, 1) := by decide +kernel
theorem dL_isFair_426 : decode cL_isFair 426 = .ok (.istore 10, 2) := by decide +kernel
theorem dL_isFair_428 : decode cL_isFair 428 = .ok (.iinc 11 1, 3) := by decide +kernel
theorem dL_isFair_431 : decode cL_isFair 431 = .ok (.goto (-48), 3) := by decide +kernel
theorem dL_isFair_434 : decode cL_isFair 434 = .ok (.iload 10, 2) := by decide +kernel
theorem dL_isFair_436 : decode cL_isFair 436 = .ok (.ifCond .le 15, 3) := by decide +kernel
theorem dL_isFair_439 : decode cL_isFair 439 = .ok (.iload 10, 2) := by decide +kernel
theorem dL_isFair_441 : decode cL_isFair 441 = .ok (.aload_n 2, 1) := by decide +kernel
theorem dL_isFair_442 : decode cL_isFair 442 = .ok (.iload 8, 2) := by decide +kernel
theorem dL_isFair_444 : decode cL_isFair 444 = .ok (.iaload, 1) := by decide +kernel
theorem dL_isFair_445 : decode cL_isFair 445 = .ok (.if_icmp .eq 27, 3) := by decide +kernel
theorem dL_isFair_448 : decode cL_isFair 448 = .ok (.goto 22, 3) := by decide +kernel
theorem dL_isFair_451 : decode cL_isFair 451 = .ok (.iload 9, 2) := by decide +kernel
theorem dL_isFair_453 : decode cL_isFair 453 = .ok (.bipush 100, 2) := by decide +kernel
theorem dL_isFair_455 : decode cL_isFair 455 = .ok (.if_icmp .gt 15, 3) := by decide +kernel
theorem dL_isFair_458 : decode cL_isFair 458 = .ok (.iload 9, 2) := by decide +kernel
theorem dL_isFair_460 : decode cL_isFair 460 = .ok (.bipush 100, 2) := by decide +kernel
theorem dL_isFair_462 : decode cL_isFair 462 = .ok (.aload_n 2, 1) := by decide +kernel
theorem dL_isFair_463 : decode cL_isFair 463 = .ok (.iload 8, 2) := by decide +kernel
theorem dL_isFair_465 : decode cL_isFair 465 = .ok (.iaload, 1) := by decide +kernel
theorem dL_isFair_466 : decode cL_isFair 466 = .ok (.isub, 1) := by decide +kernel
theorem dL_isFair_467 : decode cL_isFair 467 = .ok (.if_icmp .gt 5, 3) := by decide +kernel
theorem dL_isFair_470 : decode cL_isFair 470 = .ok (.iconst 0, 1) := by decide +kernel
theorem dL_isFair_471 : decode cL_isFair 471 = .ok (.ireturn, 1) := by decide +kernel
theorem dL_isFair_472 : decode cL_isFair 472 = .ok (.iinc 8 1, 3) := by decide +kernel
theorem dL_isFair_475 : decode cL_isFair 475 = .ok (.goto (-108), 3) := by decide +kernel
theorem dL_isFair_478 : decode cL_isFair 478 = .ok (.iload 6, 2) := by decide +kernel
theorem dL_isFair_480 : decode cL_isFair 480 = .ok (.iload 4, 2) := by decide +kernel
theorem dL_isFair_482 : decode cL_isFair 482 = .ok (.if_icmp .ne 47, 3) := by decide +kernel
theorem dL_isFair_485 : decode cL_isFair 485 = .ok (.iload 7, 2) := by decide +kernel
theorem dL_isFair_487 : decode cL_isFair 487 = .ok (.aload_n 0, 1) := by decide +kernel
theorem dL_isFair_488 : decode cL_isFair 488 = .ok (.bipush 8, 2) := by decide +kernel
theorem dL_isFair_490 : decode cL_isFair 490 = .ok (.invokevirtual 50, 3) := by decide +kernel
theorem dL_isFair_493 : decode cL_isFair 493 = .ok (.if_icmp .ne 36, 3) := by decide +kernel
theorem dL_isFair_496 : decode cL_isFair 496 = .ok (.iload 5, 2) := by decide +kernel
theorem dL_isFair_498 : decode cL_isFair 498 = .ok (.aload_n 0, 1) := by decide +kernel
theorem dL_isFair_499 : decode cL_isFair 499 = .ok (.bipush 9, 2) := by decide +kernel
theorem dL_isFair_501 : decode cL_isFair 501 = .ok (.invokevirtual 50, 3) := by decide +kernel
theorem dL_isFair_504 : decode cL_isFair 504 = .ok (.if_icmp .ne 25, 3) := by decide +kernel
theorem dL_isFair_507 : decode cL_isFair 507 = .ok (.iload 5, 2) := by decide +kernel
theorem dL_isFair_509 : decode cL_isFair 509 = .ok (.bipush 10, 2) := by decide +kernel
theorem dL_isFair_511 : decode cL_isFair 511 = .ok (.iload 4, 2) := by decide +kernel
theorem dL_isFair_513 : decode cL_isFair 513 = .ok (.imul, 1) := by decide +kernel
theorem dL_isFair_514 : decode cL_isFair 514 = .ok (.iconst 2, 1) := by decide +kernel
theorem dL_isFair_515 : decode cL_isFair 515 = .ok (.aload_n 0, 1) := by decide +kernel
theorem dL_isFair_516 : decode cL_isFair 516 = .ok (.iconst 4, 1) := by decide +kernel
theorem dL_isFair_517 : decode cL_isFair 517 = .ok (.invokevirtual 50, 3) := by decide +kernel
theorem dL_isFair_520 : decode cL_isFair 520 = .ok (.imul, 1) := by decide +kernel
theorem dL_isFair_521 : decode cL_isFair 521 = .ok (.iadd, 1) := by decide +kernel
theorem dL_isFair_522 : decode cL_isFair 522 = .ok (.if_icmp .ne 7, 3) := by decide +kernel
theorem dL_isFair_525 : decode cL_isFair 525 = .ok (.iconst 1, 1) := by decide +kernel
theorem dL_isFair_526 : decode cL_isFair 526 = .ok (.goto 4, 3) := by decide +kernel
theorem dL_isFair_529 : decode cL_isFair 529 = .ok (.iconst 0, 1) := by decide +kernel
theorem dL_isFair_530 : decode cL_isFair 530 = .ok (.ireturn, 1) := by decide +kernel
