theorem dL_cell_0 : decode cL_cell 0 = .ok (.iload_n 1, 1) := by decide +kernel
theorem dL_cell_1 : decode cL_cell 1 = .ok (.aload_n 0, 1) := by decide +kernel
theorem dL_cell_2 : decode cL_cell 2 = .ok (.arraylength, 1) := by decide +kernel
theorem dL_cell_3 : decode cL_cell 3 = .ok (.if_icmp .ge 9, 3) := by decide +kernel
theorem dL_cell_6 : decode cL_cell 6 = .ok (.aload_n 0, 1) := by decide +kernel
theorem dL_cell_7 : decode cL_cell 7 = .ok (.iload_n 1, 1) := by decide +kernel
theorem dL_cell_8 : decode cL_cell 8 = .ok (.iaload, 1) := by decide +kernel
theorem dL_cell_9 : decode cL_cell 9 = .ok (.goto 11, 3) := by decide +kernel
theorem dL_cell_12 : decode cL_cell 12 = .ok (.ldc 7, 2) := by decide +kernel
theorem dL_cell_14 : decode cL_cell 14 = .ok (.iload_n 1, 1) := by decide +kernel
theorem dL_cell_15 : decode cL_cell 15 = .ok (.imul, 1) := by decide +kernel
theorem dL_cell_16 : decode cL_cell 16 = .ok (.sipush 6701, 3) := by decide +kernel
theorem dL_cell_19 : decode cL_cell 19 = .ok (.iadd, 1) := by decide +kernel
theorem dL_cell_20 : decode cL_cell 20 = .ok (.ireturn, 1) := by decide +kernel
theorem dL_low_0 : decode cL_low 0 = .ok (.iload_n 0, 1) := by decide +kernel
theorem dL_low_1 : decode cL_low 1 = .ok (.ldc 8, 2) := by decide +kernel
theorem dL_low_3 : decode cL_low 3 = .ok (.iand, 1) := by decide +kernel
theorem dL_low_4 : decode cL_low 4 = .ok (.iload_n 1, 1) := by decide +kernel
theorem dL_low_5 : decode cL_low 5 = .ok (.irem, 1) := by decide +kernel
theorem dL_low_6 : decode cL_low 6 = .ok (.ireturn, 1) := by decide +kernel
theorem dL_lines_0 : decode cL_lines 0 = .ok (.iconst 0, 1) := by decide +kernel
theorem dL_lines_1 : decode cL_lines 1 = .ok (.istore_n 1, 1) := by decide +kernel
theorem dL_lines_2 : decode cL_lines 2 = .ok (.iconst 0, 1) := by decide +kernel
theorem dL_lines_3 : decode cL_lines 3 = .ok (.istore_n 2, 1) := by decide +kernel
theorem dL_lines_4 : decode cL_lines 4 = .ok (.iconst 0, 1) := by decide +kernel
theorem dL_lines_5 : decode cL_lines 5 = .ok (.istore_n 3, 1) := by decide +kernel
theorem dL_lines_6 : decode cL_lines 6 = .ok (.iload_n 3, 1) := by decide +kernel
theorem dL_lines_7 : decode cL_lines 7 = .ok (.iconst 2, 1) := by decide +kernel
theorem dL_lines_8 : decode cL_lines 8 = .ok (.if_icmp .ge 374, 3) := by decide +kernel
theorem dL_lines_11 : decode cL_lines 11 = .ok (.iconst 0, 1) := by decide +kernel
theorem dL_lines_12 : decode cL_lines 12 = .ok (.istore 4, 2) := by decide +kernel
theorem dL_lines_14 : decode cL_lines 14 = .ok (.iconst 0, 1) := by decide +kernel
theorem dL_lines_15 : decode cL_lines 15 = .ok (.istore 5, 2) := by decide +kernel
theorem dL_lines_17 : decode cL_lines 17 = .ok (.iconst 0, 1) := by decide +kernel
theorem dL_lines_18 : decode cL_lines 18 = .ok (.istore 6, 2) := by decide +kernel
theorem dL_lines_20 : decode cL_lines 20 = .ok (.iload 6, 2) := by decide +kernel
theorem dL_lines_22 : decode cL_lines 22 = .ok (.aload_n 0, 1) := by decide +kernel
theorem dL_lines_23 : decode cL_lines 23 = .ok (.iconst 0, 1) := by decide +kernel
theorem dL_lines_24 : decode cL_lines 24 = .ok (.iload_n 3, 1) := by decide +kernel
theorem dL_lines_25 : decode cL_lines 25 = .ok (.invokevirtual 9, 3) := by decide +kernel
theorem dL_lines_28 : decode cL_lines 28 = .ok (.if_icmp .ge 297, 3) := by decide +kernel
theorem dL_lines_31 : decode cL_lines 31 = .ok (.aload_n 0, 1) := by decide +kernel
theorem dL_lines_32 : decode cL_lines 32 = .ok (.iload_n 3, 1) := by decide +kernel
theorem dL_lines_33 : decode cL_lines 33 = .ok (.iload 6, 2) := by decide +kernel
theorem dL_lines_35 : decode cL_lines 35 = .ok (.iconst 0, 1) := by decide +kernel
theorem dL_lines_36 : decode cL_lines 36 = .ok (.invokevirtual 15, 3) := by decide +kernel
theorem dL_lines_39 : decode cL_lines 39 = .ok (.istore 7, 2) := by decide +kernel
theorem dL_lines_41 : decode cL_lines 41 = .ok (.aload_n 0, 1) := by decide +kernel
theorem dL_lines_42 : decode cL_lines 42 = .ok (.iload_n 3, 1) := by decide +kernel
theorem dL_lines_43 : decode cL_lines 43 = .ok (.iload 6, 2) := by decide +kernel
theorem dL_lines_45 : decode cL_lines 45 = .ok (.iconst 1, 1) := by decide +kernel
theorem dL_lines_46 : decode cL_lines 46 = .ok (.invokevirtual 15, 3) := by decide +kernel
theorem dL_lines_49 : decode cL_lines 49 = .ok (.istore 8, 2) := by decide +kernel
theorem dL_lines_51 : decode cL_lines 51 = .ok (.iload_n 1, 1) := by decide +kernel
theorem dL_lines_52 : decode cL_lines 52 = .ok (.iload 7, 2) := by decide +kernel
theorem dL_lines_54 : decode cL_lines 54 = .ok (.ifCond .lt 7, 3) := by decide +kernel
theorem dL_lines_57 : decode cL_lines 57 = .ok (.iconst 1, 1) := by decide +kernel
theorem dL_lines_58 : decode cL_lines 58 = .ok (.goto 4, 3) := by decide +kernel
theorem dL_lines_61 : decode cL_lines 61 = .ok (.iconst 0, 1) := by decide +kernel
theorem dL_lines_62 : decode cL_lines 62 = .ok (.iadd, 1) := by decide +kernel
theorem dL_lines_63 : decode cL_lines 63 = .ok (.istore_n 1, 1) := by decide +kernel
theorem dL_lines_64 : decode cL_lines 64 = .ok (.iload_n 2, 1) := by decide +kernel
theorem dL_lines_65 : decode cL_lines 65 = .ok (.iload 8, 2) := by decide +kernel
theorem dL_lines_67 : decode cL_lines 67 = .ok (.ifCond .lt 7, 3) := by decide +kernel
theorem dL_lines_70 : decode cL_lines 70 = .ok (.iconst 1, 1) := by decide +kernel
theorem dL_lines_71 : decode cL_lines 71 = .ok (.goto 4, 3) := by decide +kernel
theorem dL_lines_74 : decode cL_lines 74 = .ok (.iconst 0, 1) := by decide +kernel
theorem dL_lines_75 : decode cL_lines 75 = .ok (.iadd, 1) := by decide +kernel
theorem dL_lines_76 : decode cL_lines 76 = .ok (.istore_n 2, 1) := by decide +kernel
theorem dL_lines_77 : decode cL_lines 77 = .ok (.aload_n 0, 1) := by decide +kernel
theorem dL_lines_78 : decode cL_lines 78 = .ok (.iload_n 3, 1) := by decide +kernel
theorem dL_lines_79 : decode cL_lines 79 = .ok (.iload 6, 2) := by decide +kernel
theorem dL_lines_81 : decode cL_lines 81 = .ok (.iconst 2, 1) := by decide +kernel
theorem dL_lines_82 : decode cL_lines 82 = .ok (.invokevirtual 15, 3) := by decide +kernel
theorem dL_lines_85 : decode cL_lines 85 = .ok (.iload 8, 2) := by decide +kernel
theorem dL_lines_87 : decode cL_lines 87 = .ok (.ifCond .lt 8, 3) := by decide +kernel
theorem dL_lines_90 : decode cL_lines 90 = .ok (.bipush (-5), 2) := by decide +kernel
theorem dL_lines_92 : decode cL_lines 92 = .ok (.goto 5, 3) := by decide +kernel
theorem dL_lines_95 : decode cL_lines 95 = .ok (.iload 4, 2) := by decide +kernel
theorem dL_lines_97 : decode cL_lines 97 = .ok (.if_icmp .ne 39, 3) := by decide +kernel
theorem dL_lines_100 : decode cL_lines 100 = .ok (.aload_n 0, 1) := by decide +kernel
theorem dL_lines_101 : decode cL_lines 101 = .ok (.iload_n 3, 1) := by decide +kernel
theorem dL_lines_102 : decode cL_lines 102 = .ok (.iload 6, 2) := by decide +kernel
theorem dL_lines_104 : decode cL_lines 104 = .ok (.iconst 3, 1) := by decide +kernel
theorem dL_lines_105 : decode cL_lines 105 = .ok (.invokevirtual 15, 3) := by decide +kernel
theorem dL_lines_108 : decode cL_lines 108 = .ok (.iload 7, 2) := by decide +kernel
theorem dL_lines_110 : decode cL_lines 110 = .ok (.ifCond .lt 8, 3) := by decide +kernel
theorem dL_lines_113 : decode cL_lines 113 = .ok (.bipush (-5), 2) := by decide +kernel
theorem dL_lines_115 : decode cL_lines 115 = .ok (.goto 5, 3) := by decide +kernel
theorem dL_lines_118 : decode cL_lines 118 = .ok (.iload 5, 2) := by decide +kernel
theorem dL_lines_120 : decode cL_lines 120 = .ok (.if_icmp .ne 16, 3) := by decide +kernel
theorem dL_lines_123 : decode cL_lines 123 = .ok (.aload_n 0, 1) := by decide +kernel
theorem dL_lines_124 : decode cL_lines 124 = .ok (.iload_n 3, 1) := by decide +kernel
theorem dL_lines_125 : decode cL_lines 125 = .ok (.iload 6, 2) := by decide +kernel
theorem dL_lines_127 : decode cL_lines 127 = .ok (.iconst 5, 1) := by decide +kernel
theorem dL_lines_128 : decode cL_lines 128 = .ok (.invokevirtual 15, 3) := by decide +kernel
theorem dL_lines_131 : decode cL_lines 131 = .ok (.bipush (-2), 2) := by decide +kernel
theorem dL_lines_133 : decode cL_lines 133 = .ok (.if_icmp .eq 5, 3) := by decide +kernel
theorem dL_lines_136 : decode cL_lines 136 = .ok (.iconst 0, 1) := by decide +kernel
theorem dL_lines_137 : decode cL_lines 137 = .ok (.ireturn, 1) := by decide +kernel
theorem dL_lines_138 : decode cL_lines 138 = .ok (.iload 4, 2) := by decide +kernel
theorem dL_lines_140 : decode cL_lines 140 = .ok (.iload 8, 2) := by decide +kernel
theorem dL_lines_142 : decode cL_lines 142 = .ok (.ifCond .lt 7, 3) := by decide +kernel
theorem dL_lines_145 : decode cL_lines 145 = .ok (.iconst 0, 1) := by decide +kernel
theorem dL_lines_146 : decode cL_lines 146 = .ok (.goto 4, 3) := by decide +kernel
theorem dL_lines_149 : decode cL_lines 149 = .ok (.iconst 1, 1) := by decide +kernel
theorem dL_lines_150 : decode cL_lines 150 = .ok (.iadd, 1) := by decide +kernel
theorem dL_lines_151 : decode cL_lines 151 = .ok (.istore 4, 2) := by decide +kernel
theorem dL_lines_153 : decode cL_lines 153 = .ok (.iload 5, 2) := by decide +kernel
theorem dL_lines_155 : decode cL_lines 155 = .ok (.iload 7, 2) := by decide +kernel
theorem dL_lines_157 : decode cL_lines 157 = .ok (.ifCond .lt 7, 3) := by decide +kernel
theorem dL_lines_160 : decode cL_lines 160 = .ok (.iconst 0, 1) := by decide +kernel
theorem dL_lines_161 : decode cL_lines 161 = .ok (.goto 4, 3) := by decide +kernel
theorem dL_lines_164 : decode cL_lines 164 = .ok (.iconst 1, 1) := by decide +kernel
theorem dL_lines_165 : decode cL_lines 165 = .ok (.iadd, 1) := by decide +kernel
theorem dL_lines_166 : decode cL_lines 166 = .ok (.istore 5, 2) := by decide +kernel
theorem dL_lines_168 : decode cL_lines 168 = .ok (.iload 7, 2) := by decide +kernel
theorem dL_lines_170 : decode cL_lines 170 = .ok (.bipush (-5), 2) := by decide +kernel
theorem dL_lines_172 : decode cL_lines 172 = .ok (.if_icmp .eq 54, 3) := by decide +kernel
theorem dL_lines_175 : decode cL_lines 175 = .ok (.aload_n 0, 1) := by decide +kernel
theorem dL_lines_176 : decode cL_lines 176 = .ok (.iload 7, 2) := by decide +kernel
theorem dL_lines_178 : decode cL_lines 178 = .ok (.iconst 0, 1) := by decide +kernel
theorem dL_lines_179 : decode cL_lines 179 = .ok (.invokevirtual 19, 3) := by decide +kernel
theorem dL_lines_182 : decode cL_lines 182 = .ok (.iconst 2, 1) := by decide +kernel
theorem dL_lines_183 : decode cL_lines 183 = .ok (.iload_n 3, 1) := by decide +kernel
theorem dL_lines_184 : decode cL_lines 184 = .ok (.imul, 1) := by decide +kernel
theorem dL_lines_185 : decode cL_lines 185 = .ok (.if_icmp .ne 45, 3) := by decide +kernel
theorem dL_lines_188 : decode cL_lines 188 = .ok (.aload_n 0, 1) := by decide +kernel
theorem dL_lines_189 : decode cL_lines 189 = .ok (.iload 7, 2) := by decide +kernel
theorem dL_lines_191 : decode cL_lines 191 = .ok (.iconst 2, 1) := by decide +kernel
theorem dL_lines_192 : decode cL_lines 192 = .ok (.invokevirtual 19, 3) := by decide +kernel
theorem dL_lines_195 : decode cL_lines 195 = .ok (.ifCond .ne 35, 3) := by decide +kernel
theorem dL_lines_198 : decode cL_lines 198 = .ok (.aload_n 0, 1) := by decide +kernel
theorem dL_lines_199 : decode cL_lines 199 = .ok (.iload 7, 2) := by decide +kernel
theorem dL_lines_201 : decode cL_lines 201 = .ok (.iconst 3, 1) := by decide +kernel
theorem dL_lines_202 : decode cL_lines 202 = .ok (.iload_n 3, 1) := by decide +kernel
theorem dL_lines_203 : decode cL_lines 203 = .ok (.iadd, 1) := by decide +kernel
theorem dL_lines_204 : decode cL_lines 204 = .ok (.invokevirtual 19, 3) := by decide +kernel
theorem dL_lines_207 : decode cL_lines 207 = .ok (.iload 6, 2) := by decide +kernel
theorem dL_lines_209 : decode cL_lines 209 = .ok (.if_icmp .ne 21, 3) := by decide +kernel
theorem dL_lines_212 : decode cL_lines 212 = .ok (.aload_n 0, 1) := by decide +kernel
theorem dL_lines_213 : decode cL_lines 213 = .ok (.iload 7, 2) := by decide +kernel
theorem dL_lines_215 : decode cL_lines 215 = .ok (.iconst 4, 1) := by decide +kernel
theorem dL_lines_216 : decode cL_lines 216 = .ok (.iload_n 3, 1) := by decide +kernel
theorem dL_lines_217 : decode cL_lines 217 = .ok (.isub, 1) := by decide +kernel
theorem dL_lines_218 : decode cL_lines 218 = .ok (.invokevirtual 19, 3) := by decide +kernel
theorem dL_lines_221 : decode cL_lines 221 = .ok (.bipush (-5), 2) := by decide +kernel
theorem dL_lines_223 : decode cL_lines 223 = .ok (.if_icmp .ne 7, 3) := by decide +kernel
theorem dL_lines_226 : decode cL_lines 226 = .ok (.iconst 1, 1) := by decide +kernel
theorem dL_lines_227 : decode cL_lines 227 = .ok (.goto 4, 3) := by decide +kernel
theorem dL_lines_230 : decode cL_lines 230 = .ok (.iconst 0, 1) := by decide +kernel
theorem dL_lines_231 : decode cL_lines 231 = .ok (.istore 9, 2) := by decide +kernel
theorem dL_lines_233 : decode cL_lines 233 = .ok (.iload 8, 2) := by decide +kernel
theorem dL_lines_235 : decode cL_lines 235 = .ok (.bipush (-5), 2) := by decide +kernel
theorem dL_lines_237 : decode cL_lines 237 = .ok (.if_icmp .eq 63, 3) := by decide +kernel
theorem dL_lines_240 : decode cL_lines 240 = .ok (.aload_n 0, 1) := by decide +kernel
theorem dL_lines_241 : decode cL_lines 241 = .ok (.iload 8, 2) := by decide +kernel
theorem dL_lines_243 : decode cL_lines 243 = .ok (.iconst 0, 1) := by decide +kernel
theorem dL_lines_244 : decode cL_lines 244 = .ok (.invokevirtual 19, 3) := by decide +kernel
theorem dL_lines_247 : decode cL_lines 247 = .ok (.iconst 2, 1) := by decide +kernel
theorem dL_lines_248 : decode cL_lines 248 = .ok (.iload_n 3, 1) := by decide +kernel
theorem dL_lines_249 : decode cL_lines 249 = .ok (.imul, 1) := by decide +kernel
theorem dL_lines_250 : decode cL_lines 250 = .ok (.iconst 1, 1) := by decide +kernel
theorem dL_lines_251 : decode cL_lines 251 = .ok (.iadd, 1) := by decide +kernel
theorem dL_lines_252 : decode cL_lines 252 = .ok (.if_icmp .ne 52, 3) := by decide +kernel
theorem dL_lines_255 : decode cL_lines 255 = .ok (.aload_n 0, 1) := by decide +kernel
theorem dL_lines_256 : decode cL_lines 256 = .ok (.iload 8, 2) := by decide +kernel
theorem dL_lines_258 : decode cL_lines 258 = .ok (.iconst 2, 1) := by decide +kernel
theorem dL_lines_259 : decode cL_lines 259 = .ok (.invokevirtual 19, 3) := by decide +kernel
theorem dL_lines_262 : decode cL_lines 262 = .ok (.ifCond .ne 42, 3) := by decide +kernel
theorem dL_lines_265 : decode cL_lines 265 = .ok (.aload_n 0, 1) := by decide +kernel
theorem dL_lines_266 : decode cL_lines 266 = .ok (.iload 8, 2) := by decide +kernel
theorem dL_lines_268 : decode cL_lines 268 = .ok (.iconst 3, 1) := by decide +kernel
theorem dL_lines_269 : decode cL_lines 269 = .ok (.iload_n 3, 1) := by decide +kernel
theorem dL_lines_270 : decode cL_lines 270 = .ok (.iadd, 1) := by decide +kernel
theorem dL_lines_271 : decode cL_lines 271 = .ok (.invokevirtual 19, 3) := by decide +kernel
theorem dL_lines_274 : decode cL_lines 274 = .ok (.iload 6, 2) := by decide +kernel
theorem dL_lines_276 : decode cL_lines 276 = .ok (.if_icmp .ne 28, 3) := by decide +kernel
theorem dL_lines_279 : decode cL_lines 279 = .ok (.aload_n 0, 1) := by decide +kernel
theorem dL_lines_280 : decode cL_lines 280 = .ok (.iload 8, 2) := by decide +kernel
theorem dL_lines_282 : decode cL_lines 282 = .ok (.bipush 7, 2) := by decide +kernel
theorem dL_lines_284 : decode cL_lines 284 = .ok (.invokevirtual 19, 3) := by decide +kernel
theorem dL_lines_287 : decode cL_lines 287 = .ok (.iload 7, 2) := by decide +kernel
theorem dL_lines_289 : decode cL_lines 289 = .ok (.ifCond .lt 7, 3) := by decide +kernel
theorem dL_lines_292 : decode cL_lines 292 = .ok (.iconst 1, 1) := by decide +kernel
theorem dL_lines_293 : decode cL_lines 293 = .ok (.goto 4, 3) := by decide +kernel
theorem dL_lines_296 : decode cL_lines 296 = .ok (.iconst 0, 1) := by decide +kernel
theorem dL_lines_297 : decode cL_lines 297 = .ok (.if_icmp .ne 7, 3) := by decide +kernel
theorem dL_lines_300 : decode cL_lines 300 = .ok (.iconst 1, 1) := by decide +kernel
theorem dL_lines_301 : decode cL_lines 301 = .ok (.goto 4, 3) := by decide +kernel
theorem dL_lines_304 : decode cL_lines 304 = .ok (.iconst 0, 1) := by decide +kernel
theorem dL_lines_305 : decode cL_lines 305 = .ok (.istore 10, 2) := by decide +kernel
theorem dL_lines_307 : decode cL_lines 307 = .ok (.iload 9, 2) := by decide +kernel
theorem dL_lines_309 : decode cL_lines 309 = .ok (.ifCond .eq 8, 3) := by decide +kernel
theorem dL_lines_312 : decode cL_lines 312 = .ok (.iload 10, 2) := by decide +kernel
theorem dL_lines_314 : decode cL_lines 314 = .ok (.ifCond .ne 5, 3) := by decide +kernel
theorem dL_lines_317 : decode cL_lines 317 = .ok (.iconst 0, 1) := by decide +kernel
theorem dL_lines_318 : decode cL_lines 318 = .ok (.ireturn, 1) := by decide +kernel
theorem dL_lines_319 : decode cL_lines 319 = .ok (.iinc 6 1, 3) := by decide +kernel
theorem dL_lines_322 : decode cL_lines 322 = .ok (.goto (-302), 3) := by decide +kernel
theorem dL_lines_325 : decode cL_lines 325 = .ok (.aload_n 0, 1) := by decide +kernel
theorem dL_lines_326 : decode cL_lines 326 = .ok (.iconst 1, 1) := by decide +kernel
theorem dL_lines_327 : decode cL_lines 327 = .ok (.iload_n 3, 1) := by decide +kernel
theorem dL_lines_328 : decode cL_lines 328 = .ok (.invokevirtual 9, 3) := by decide +kernel
theorem dL_lines_331 : decode cL_lines 331 = .ok (.iload 4, 2) := by decide +kernel
theorem dL_lines_333 : decode cL_lines 333 = .ok (.if_icmp .ne 41, 3) := by decide +kernel
theorem dL_lines_336 : decode cL_lines 336 = .ok (.aload_n 0, 1) := by decide +kernel
theorem dL_lines_337 : decode cL_lines 337 = .ok (.iconst 2, 1) := by decide +kernel
theorem dL_lines_338 : decode cL_lines 338 = .ok (.iload_n 3, 1) := by decide +kernel
theorem dL_lines_339 : decode cL_lines 339 = .ok (.invokevirtual 9, 3) := by decide +kernel
theorem dL_lines_342 : decode cL_lines 342 = .ok (.iload 5, 2) := by decide +kernel
theorem dL_lines_344 : decode cL_lines 344 = .ok (.if_icmp .ne 30, 3) := by decide +kernel
theorem dL_lines_347 : decode cL_lines 347 = .ok (.aload_n 0, 1) := by decide +kernel
theorem dL_lines_348 : decode cL_lines 348 = .ok (.iload_n 3, 1) := by decide +kernel
theorem dL_lines_349 : decode cL_lines 349 = .ok (.aload_n 0, 1) := by decide +kernel
theorem dL_lines_350 : decode cL_lines 350 = .ok (.iconst 0, 1) := by decide +kernel
theorem dL_lines_351 : decode cL_lines 351 = .ok (.iload_n 3, 1) := by decide +kernel
theorem dL_lines_352 : decode cL_lines 352 = .ok (.invokevirtual 9, 3) := by decide +kernel
theorem dL_lines_355 : decode cL_lines 355 = .ok (.iconst 0, 1) := by decide +kernel
theorem dL_lines_356 : decode cL_lines 356 = .ok (.invokevirtual 15, 3) := by decide +kernel
theorem dL_lines_359 : decode cL_lines 359 = .ok (.iconst (-1), 1) := by decide +kernel
theorem dL_lines_360 : decode cL_lines 360 = .ok (.if_icmp .ne 14, 3) := by decide +kernel
theorem dL_lines_363 : decode cL_lines 363 = .ok (.aload_n 0, 1) := by decide +kernel
theorem dL_lines_364 : decode cL_lines 364 = .ok (.iload_n 3, 1) := by decide +kernel
theorem dL_lines_365 : decode cL_lines 365 = .ok (.iconst (-1), 1) := by decide +kernel
theorem dL_lines_366 : decode cL_lines 366 = .ok (.iconst 0, 1) := by decide +kernel
theorem dL_lines_367 : decode cL_lines 367 = .ok (.invokevirtual 15, 3) := by decide +kernel
theorem dL_lines_370 : decode cL_lines 370 = .ok (.iconst (-1), 1) := by decide +kernel
theorem dL_lines_371 : decode cL_lines 371 = .ok (.if_icmp .eq 5, 3) := by decide +kernel
theorem dL_lines_374 : decode cL_lines 374 = .ok (.iconst 0, 1) := by decide +kernel
theorem dL_lines_375 : decode cL_lines 375 = .ok (.ireturn, 1) := by decide +kernel
theorem dL_lines_376 : decode cL_lines 376 = .ok (.iinc 3 1, 3) := by decide +kernel
theorem dL_lines_379 : decode cL_lines 379 = .ok (.goto (-373), 3) := by decide +kernel
theorem dL_lines_382 : decode cL_lines 382 = .ok (.aload_n 0, 1) := by decide +kernel
theorem dL_lines_383 : decode cL_lines 383 = .ok (.bipush 6, 2) := by decide +kernel
theorem dL_lines_385 : decode cL_lines 385 = .ok (.invokevirtual 22, 3) := by decide +kernel
theorem dL_lines_388 : decode cL_lines 388 = .ok (.iload_n 1, 1) := by decide +kernel
theorem dL_lines_389 : decode cL_lines 389 = .ok (.if_icmp .ne 48, 3) := by decide +kernel
theorem dL_lines_392 : decode cL_lines 392 = .ok (.aload_n 0, 1) := by decide +kernel
theorem dL_lines_393 : decode cL_lines 393 = .ok (.bipush 7, 2) := by decide +kernel
theorem dL_lines_395 : decode cL_lines 395 = .ok (.invokevirtual 22, 3) := by decide +kernel
theorem dL_lines_398 : decode cL_lines 398 = .ok (.iload_n 2, 1) := by decide +kernel
theorem dL_lines_399 : decode cL_lines 399 = .ok (.if_icmp .ne 38, 3) := by decide +kernel
theorem dL_lines_402 : decode cL_lines 402 = .ok (.aload_n 0, 1) := by decide +kernel
theorem dL_lines_403 : decode cL_lines 403 = .ok (.iconst 3, 1) := by decide +kernel
theorem dL_lines_404 : decode cL_lines 404 = .ok (.iconst 0, 1) := by decide +kernel
theorem dL_lines_405 : decode cL_lines 405 = .ok (.invokevirtual 9, 3) := by decide +kernel
theorem dL_lines_408 : decode cL_lines 408 = .ok (.iconst (-1), 1) := by decide +kernel
theorem dL_lines_409 : decode cL_lines 409 = .ok (.if_icmp .ne 28, 3) := by decide +kernel
theorem dL_lines_412 : decode cL_lines 412 = .ok (.aload_n 0, 1) := by decide +kernel
theorem dL_lines_413 : decode cL_lines 413 = .ok (.iconst 0, 1) := by decide +kernel
theorem dL_lines_414 : decode cL_lines 414 = .ok (.iconst 2, 1) := by decide +kernel
theorem dL_lines_415 : decode cL_lines 415 = .ok (.invokevirtual 9, 3) := by decide +kernel
theorem dL_lines_418 : decode cL_lines 418 = .ok (.iconst (-1), 1) := by decide +kernel
theorem dL_lines_419 : decode cL_lines 419 = .ok (.if_icmp .ne 18, 3) := by decide +kernel
theorem dL_lines_422 : decode cL_lines 422 = .ok (.aload_n 0, 1) := by decide +kernel
theorem dL_lines_423 : decode cL_lines 423 = .ok (.iconst 2, 1) := by decide +kernel
theorem dL_lines_424 : decode cL_lines 424 = .ok (.iconst 0, 1) := by decide +kernel
theorem dL_lines_425 : decode cL_lines 425 = .ok (.iconst 0, 1) := by decide +kernel
theorem dL_lines_426 : decode cL_lines 426 = .ok (.invokevirtual 15, 3) := by decide +kernel
theorem dL_lines_429 : decode cL_lines 429 = .ok (.iconst (-1), 1) := by decide +kernel
theorem dL_lines_430 : decode cL_lines 430 = .ok (.if_icmp .ne 7, 3) := by decide +kernel
theorem dL_lines_433 : decode cL_lines 433 = .ok (.iconst 1, 1) := by decide +kernel
theorem dL_lines_434 : decode cL_lines 434 = .ok (.goto 4, 3) := by decide +kernel
theorem dL_lines_437 : decode cL_lines 437 = .ok (.iconst 0, 1) := by decide +kernel
theorem dL_lines_438 : decode cL_lines 438 = .ok (.ireturn, 1) := by decide +kernel
theorem dL_cells_0 : decode cL_cells 0 = .ok (.iconst 0, 1) := by decide +kernel
theorem dL_cells_1 : decode cL_cells 1 = .ok (.istore_n 1, 1) := by decide +kernel
theorem dL_cells_2 : decode cL_cells 2 = .ok (.iconst 3, 1) := by decide +kernel
theorem dL_cells_3 : decode cL_cells 3 = .ok (.newarray .int, 2) := by decide +kernel
theorem dL_cells_5 : decode cL_cells 5 = .ok (.astore_n 2, 1) := by decide +kernel
theorem dL_cells_6 : decode cL_cells 6 = .ok (.iconst 0, 1) := by decide +kernel
theorem dL_cells_7 : decode cL_cells 7 = .ok (.istore_n 3, 1) := by decide +kernel
theorem dL_cells_8 : decode cL_cells 8 = .ok (.iload_n 3, 1) := by decide +kernel
theorem dL_cells_9 : decode cL_cells 9 = .ok (.aload_n 0, 1) := by decide +kernel
theorem dL_cells_10 : decode cL_cells 10 = .ok (.iconst 0, 1) := by decide +kernel
theorem dL_cells_11 : decode cL_cells 11 = .ok (.iconst 0, 1) := by decide +kernel
theorem dL_cells_12 : decode cL_cells 12 = .ok (.invokevirtual 9, 3) := by decide +kernel
theorem dL_cells_15 : decode cL_cells 15 = .ok (.if_icmp .ge 376, 3) := by decide +kernel
theorem dL_cells_18 : decode cL_cells 18 = .ok (.iconst 0, 1) := by decide +kernel
theorem dL_cells_19 : decode cL_cells 19 = .ok (.istore 4, 2) := by decide +kernel
theorem dL_cells_21 : decode cL_cells 21 = .ok (.iload 4, 2) := by decide +kernel
theorem dL_cells_23 : decode cL_cells 23 = .ok (.aload_n 0, 1) := by decide +kernel
theorem dL_cells_24 : decode cL_cells 24 = .ok (.iconst 0, 1) := by decide +kernel
theorem dL_cells_25 : decode cL_cells 25 = .ok (.iconst 1, 1) := by decide +kernel
theorem dL_cells_26 : decode cL_cells 26 = .ok (.invokevirtual 9, 3) := by decide +kernel
theorem dL_cells_29 : decode cL_cells 29 = .ok (.if_icmp .ge 356, 3) := by decide +kernel
theorem dL_cells_32 : decode cL_cells 32 = .ok (.iconst 0, 1) := by decide +kernel
theorem dL_cells_33 : decode cL_cells 33 = .ok (.istore 5, 2) := by decide +kernel
theorem dL_cells_35 : decode cL_cells 35 = .ok (.iconst (-1), 1) := by decide +kernel
theorem dL_cells_36 : decode cL_cells 36 = .ok (.istore 6, 2) := by decide +kernel
theorem dL_cells_38 : decode cL_cells 38 = .ok (.iconst (-1), 1) := by decide +kernel
theorem dL_cells_39 : decode cL_cells 39 = .ok (.istore 7, 2) := by decide +kernel
theorem dL_cells_41 : decode cL_cells 41 = .ok (.aload_n 0, 1) := by decide +kernel
theorem dL_cells_42 : decode cL_cells 42 = .ok (.iload_n 3, 1) := by decide +kernel
theorem dL_cells_43 : decode cL_cells 43 = .ok (.iload 4, 2) := by decide +kernel
theorem dL_cells_45 : decode cL_cells 45 = .ok (.iload 5, 2) := by decide +kernel
theorem dL_cells_47 : decode cL_cells 47 = .ok (.invokevirtual 26, 3) := by decide +kernel
theorem dL_cells_50 : decode cL_cells 50 = .ok (.ifCond .lt 108, 3) := by decide +kernel
theorem dL_cells_53 : decode cL_cells 53 = .ok (.aload_n 0, 1) := by decide +kernel
theorem dL_cells_54 : decode cL_cells 54 = .ok (.iload_n 3, 1) := by decide +kernel
theorem dL_cells_55 : decode cL_cells 55 = .ok (.iload 4, 2) := by decide +kernel
theorem dL_cells_57 : decode cL_cells 57 = .ok (.iload 5, 2) := by decide +kernel
theorem dL_cells_59 : decode cL_cells 59 = .ok (.invokevirtual 26, 3) := by decide +kernel
theorem dL_cells_62 : decode cL_cells 62 = .ok (.istore 8, 2) := by decide +kernel
theorem dL_cells_64 : decode cL_cells 64 = .ok (.aload_n 0, 1) := by decide +kernel
theorem dL_cells_65 : decode cL_cells 65 = .ok (.iload 8, 2) := by decide +kernel
theorem dL_cells_67 : decode cL_cells 67 = .ok (.iconst 5, 1) := by decide +kernel
theorem dL_cells_68 : decode cL_cells 68 = .ok (.invokevirtual 19, 3) := by decide +kernel
theorem dL_cells_71 : decode cL_cells 71 = .ok (.istore 9, 2) := by decide +kernel
theorem dL_cells_73 : decode cL_cells 73 = .ok (.iload 8, 2) := by decide +kernel
theorem dL_cells_75 : decode cL_cells 75 = .ok (.iload 6, 2) := by decide +kernel
theorem dL_cells_77 : decode cL_cells 77 = .ok (.if_icmp .le 65, 3) := by decide +kernel
theorem dL_cells_80 : decode cL_cells 80 = .ok (.aload_n 0, 1) := by decide +kernel
theorem dL_cells_81 : decode cL_cells 81 = .ok (.iload 8, 2) := by decide +kernel
theorem dL_cells_83 : decode cL_cells 83 = .ok (.iconst 0, 1) := by decide +kernel
theorem dL_cells_84 : decode cL_cells 84 = .ok (.invokevirtual 19, 3) := by decide +kernel
theorem dL_cells_87 : decode cL_cells 87 = .ok (.iconst 4, 1) := by decide +kernel
theorem dL_cells_88 : decode cL_cells 88 = .ok (.if_icmp .ne 54, 3) := by decide +kernel
theorem dL_cells_91 : decode cL_cells 91 = .ok (.aload_n 0, 1) := by decide +kernel
theorem dL_cells_92 : decode cL_cells 92 = .ok (.iload 8, 2) := by decide +kernel
theorem dL_cells_94 : decode cL_cells 94 = .ok (.iconst 2, 1) := by decide +kernel
theorem dL_cells_95 : decode cL_cells 95 = .ok (.invokevirtual 19, 3) := by decide +kernel
theorem dL_cells_98 : decode cL_cells 98 = .ok (.ifCond .ne 44, 3) := by decide +kernel
theorem dL_cells_101 : decode cL_cells 101 = .ok (.aload_n 0, 1) := by decide +kernel
theorem dL_cells_102 : decode cL_cells 102 = .ok (.iload 8, 2) := by decide +kernel
theorem dL_cells_104 : decode cL_cells 104 = .ok (.iconst 3, 1) := by decide +kernel
theorem dL_cells_105 : decode cL_cells 105 = .ok (.invokevirtual 19, 3) := by decide +kernel
theorem dL_cells_108 : decode cL_cells 108 = .ok (.iload_n 3, 1) := by decide +kernel
theorem dL_cells_109 : decode cL_cells 109 = .ok (.if_icmp .ne 33, 3) := by decide +kernel
theorem dL_cells_112 : decode cL_cells 112 = .ok (.aload_n 0, 1) := by decide +kernel
theorem dL_cells_113 : decode cL_cells 113 = .ok (.iload 8, 2) := by decide +kernel
theorem dL_cells_115 : decode cL_cells 115 = .ok (.iconst 4, 1) := by decide +kernel
theorem dL_cells_116 : decode cL_cells 116 = .ok (.invokevirtual 19, 3) := by decide +kernel
theorem dL_cells_119 : decode cL_cells 119 = .ok (.iload 4, 2) := by decide +kernel
theorem dL_cells_121 : decode cL_cells 121 = .ok (.if_icmp .ne 21, 3) := by decide +kernel
theorem dL_cells_124 : decode cL_cells 124 = .ok (.iload 5, 2) := by decide +kernel
theorem dL_cells_126 : decode cL_cells 126 = .ok (.ifCond .le 18, 3) := by decide +kernel
theorem dL_cells_129 : decode cL_cells 129 = .ok (.aload_n 0, 1) := by decide +kernel
theorem dL_cells_130 : decode cL_cells 130 = .ok (.iload 8, 2) := by decide +kernel
theorem dL_cells_132 : decode cL_cells 132 = .ok (.bipush 6, 2) := by decide +kernel
theorem dL_cells_134 : decode cL_cells 134 = .ok (.invokevirtual 19, 3) := by decide +kernel
theorem dL_cells_137 : decode cL_cells 137 = .ok (.iload 7, 2) := by decide +kernel
theorem dL_cells_139 : decode cL_cells 139 = .ok (.if_icmp .eq 5, 3) := by decide +kernel
theorem dL_cells_142 : decode cL_cells 142 = .ok (.iconst 0, 1) := by decide +kernel
theorem dL_cells_143 : decode cL_cells 143 = .ok (.ireturn, 1) := by decide +kernel
theorem dL_cells_144 : decode cL_cells 144 = .ok (.iload 8, 2) := by decide +kernel
theorem dL_cells_146 : decode cL_cells 146 = .ok (.istore 6, 2) := by decide +kernel
theorem dL_cells_148 : decode cL_cells 148 = .ok (.iload 9, 2) := by decide +kernel
theorem dL_cells_150 : decode cL_cells 150 = .ok (.istore 7, 2) := by decide +kernel
theorem dL_cells_152 : decode cL_cells 152 = .ok (.iinc 5 1, 3) := by decide +kernel
theorem dL_cells_155 : decode cL_cells 155 = .ok (.goto (-114), 3) := by decide +kernel
theorem dL_cells_158 : decode cL_cells 158 = .ok (.iload 5, 2) := by decide +kernel
theorem dL_cells_160 : decode cL_cells 160 = .ok (.ifCond .le 20, 3) := by decide +kernel
theorem dL_cells_163 : decode cL_cells 163 = .ok (.aload_n 0, 1) := by decide +kernel
theorem dL_cells_164 : decode cL_cells 164 = .ok (.aload_n 0, 1) := by decide +kernel
theorem dL_cells_165 : decode cL_cells 165 = .ok (.iload_n 3, 1) := by decide +kernel
theorem dL_cells_166 : decode cL_cells 166 = .ok (.iload 4, 2) := by decide +kernel
theorem dL_cells_168 : decode cL_cells 168 = .ok (.iconst 0, 1) := by decide +kernel
theorem dL_cells_169 : decode cL_cells 169 = .ok (.invokevirtual 26, 3) := by decide +kernel
theorem dL_cells_172 : decode cL_cells 172 = .ok (.bipush 6, 2) := by decide +kernel
theorem dL_cells_174 : decode cL_cells 174 = .ok (.invokevirtual 19, 3) := by decide +kernel
theorem dL_cells_177 : decode cL_cells 177 = .ok (.goto 11, 3) := by decide +kernel
theorem dL_cells_180 : decode cL_cells 180 = .ok (.aload_n 0, 1) := by decide +kernel
theorem dL_cells_181 : decode cL_cells 181 = .ok (.iconst 0, 1) := by decide +kernel
theorem dL_cells_182 : decode cL_cells 182 = .ok (.iload_n 3, 1) := by decide +kernel
theorem dL_cells_183 : decode cL_cells 183 = .ok (.iload 4, 2) := by decide +kernel
theorem dL_cells_185 : decode cL_cells 185 = .ok (.invokevirtual 29, 3) := by decide +kernel
theorem dL_cells_188 : decode cL_cells 188 = .ok (.istore 8, 2) := by decide +kernel
theorem dL_cells_190 : decode cL_cells 190 = .ok (.iload_n 1, 1) := by decide +kernel
theorem dL_cells_191 : decode cL_cells 191 = .ok (.iload 5, 2) := by decide +kernel
theorem dL_cells_193 : decode cL_cells 193 = .ok (.iadd, 1) := by decide +kernel
theorem dL_cells_194 : decode cL_cells 194 = .ok (.istore_n 1, 1) := by decide +kernel
theorem dL_cells_195 : decode cL_cells 195 = .ok (.aload_n 0, 1) := by decide +kernel
theorem dL_cells_196 : decode cL_cells 196 = .ok (.iconst 0, 1) := by decide +kernel
theorem dL_cells_197 : decode cL_cells 197 = .ok (.iload_n 3, 1) := by decide +kernel
theorem dL_cells_198 : decode cL_cells 198 = .ok (.iload 4, 2) := by decide +kernel
theorem dL_cells_200 : decode cL_cells 200 = .ok (.invokevirtual 29, 3) := by decide +kernel
theorem dL_cells_203 : decode cL_cells 203 = .ok (.iload 5, 2) := by decide +kernel
theorem dL_cells_205 : decode cL_cells 205 = .ok (.ifCond .le 8, 3) := by decide +kernel
theorem dL_cells_208 : decode cL_cells 208 = .ok (.iload 7, 2) := by decide +kernel
theorem dL_cells_210 : decode cL_cells 210 = .ok (.goto 5, 3) := by decide +kernel
theorem dL_cells_213 : decode cL_cells 213 = .ok (.iload 8, 2) := by decide +kernel
theorem dL_cells_215 : decode cL_cells 215 = .ok (.if_icmp .ne 30, 3) := by decide +kernel
theorem dL_cells_218 : decode cL_cells 218 = .ok (.aload_n 0, 1) := by decide +kernel
theorem dL_cells_219 : decode cL_cells 219 = .ok (.iload_n 3, 1) := by decide +kernel
theorem dL_cells_220 : decode cL_cells 220 = .ok (.iload 4, 2) := by decide +kernel
theorem dL_cells_222 : decode cL_cells 222 = .ok (.iconst (-1), 1) := by decide +kernel
theorem dL_cells_223 : decode cL_cells 223 = .ok (.invokevirtual 26, 3) := by decide +kernel
theorem dL_cells_226 : decode cL_cells 226 = .ok (.bipush (-2), 2) := by decide +kernel
theorem dL_cells_228 : decode cL_cells 228 = .ok (.if_icmp .ne 17, 3) := by decide +kernel
theorem dL_cells_231 : decode cL_cells 231 = .ok (.aload_n 0, 1) := by decide +kernel
theorem dL_cells_232 : decode cL_cells 232 = .ok (.iload_n 3, 1) := by decide +kernel
theorem dL_cells_233 : decode cL_cells 233 = .ok (.iload 4, 2) := by decide +kernel
theorem dL_cells_235 : decode cL_cells 235 = .ok (.iload 5, 2) := by decide +kernel
theorem dL_cells_237 : decode cL_cells 237 = .ok (.invokevirtual 26, 3) := by decide +kernel
theorem dL_cells_240 : decode cL_cells 240 = .ok (.bipush (-5), 2) := by decide +kernel
theorem dL_cells_242 : decode cL_cells 242 = .ok (.if_icmp .eq 5, 3) := by decide +kernel
theorem dL_cells_245 : decode cL_cells 245 = .ok (.iconst 0, 1) := by decide +kernel
theorem dL_cells_246 : decode cL_cells 246 = .ok (.ireturn, 1) := by decide +kernel
theorem dL_cells_247 : decode cL_cells 247 = .ok (.aload_n 0, 1) := by decide +kernel
theorem dL_cells_248 : decode cL_cells 248 = .ok (.iconst 0, 1) := by decide +kernel
theorem dL_cells_249 : decode cL_cells 249 = .ok (.iload_n 3, 1) := by decide +kernel
theorem dL_cells_250 : decode cL_cells 250 = .ok (.iconst 2, 1) := by decide +kernel
theorem dL_cells_251 : decode cL_cells 251 = .ok (.invokevirtual 15, 3) := by decide +kernel
theorem dL_cells_254 : decode cL_cells 254 = .ok (.istore 9, 2) := by decide +kernel
theorem dL_cells_256 : decode cL_cells 256 = .ok (.aload_n 0, 1) := by decide +kernel
theorem dL_cells_257 : decode cL_cells 257 = .ok (.iconst 1, 1) := by decide +kernel
theorem dL_cells_258 : decode cL_cells 258 = .ok (.iload 4, 2) := by decide +kernel
theorem dL_cells_260 : decode cL_cells 260 = .ok (.iconst 2, 1) := by decide +kernel
theorem dL_cells_261 : decode cL_cells 261 = .ok (.invokevirtual 15, 3) := by decide +kernel
theorem dL_cells_264 : decode cL_cells 264 = .ok (.istore 10, 2) := by decide +kernel
theorem dL_cells_266 : decode cL_cells 266 = .ok (.aload_n 2, 1) := by decide +kernel
theorem dL_cells_267 : decode cL_cells 267 = .ok (.iconst 0, 1) := by decide +kernel
theorem dL_cells_268 : decode cL_cells 268 = .ok (.dup2, 1) := by decide +kernel
theorem dL_cells_269 : decode cL_cells 269 = .ok (.iaload, 1) := by decide +kernel
theorem dL_cells_270 : decode cL_cells 270 = .ok (.aload_n 0, 1) := by decide +kernel
theorem dL_cells_271 : decode cL_cells 271 = .ok (.iconst 0, 1) := by decide +kernel
theorem dL_cells_272 : decode cL_cells 272 = .ok (.iload_n 3, 1) := by decide +kernel
theorem dL_cells_273 : decode cL_cells 273 = .ok (.iload 4, 2) := by decide +kernel
theorem dL_cells_275 : decode cL_cells 275 = .ok (.invokevirtual 29, 3) := by decide +kernel
theorem dL_cells_278 : decode cL_cells 278 = .ok (.iadd, 1) := by decide +kernel
theorem dL_cells_279 : decode cL_cells 279 = .ok (.iastore, 1) := by decide +kernel
theorem dL_cells_280 : decode cL_cells 280 = .ok (.iload 9, 2) := by decide +kernel
theorem dL_cells_282 : decode cL_cells 282 = .ok (.ifCond .lt 44, 3) := by decide +kernel
theorem dL_cells_285 : decode cL_cells 285 = .ok (.iload 10, 2) := by decide +kernel
theorem dL_cells_287 : decode cL_cells 287 = .ok (.ifCond .lt 39, 3) := by decide +kernel
theorem dL_cells_290 : decode cL_cells 290 = .ok (.aload_n 2, 1) := by decide +kernel
theorem dL_cells_291 : decode cL_cells 291 = .ok (.iconst 1, 1) := by decide +kernel
theorem dL_cells_292 : decode cL_cells 292 = .ok (.dup2, 1) := by decide +kernel
theorem dL_cells_293 : decode cL_cells 293 = .ok (.iaload, 1) := by decide +kernel
theorem dL_cells_294 : decode cL_cells 294 = .ok (.aload_n 0, 1) := by decide +kernel
theorem dL_cells_295 : decode cL_cells 295 = .ok (.iconst 0, 1) := by decide +kernel
theorem dL_cells_296 : decode cL_cells 296 = .ok (.iload_n 3, 1) := by decide +kernel
theorem dL_cells_297 : decode cL_cells 297 = .ok (.iload 4, 2) := by decide +kernel
theorem dL_cells_299 : decode cL_cells 299 = .ok (.invokevirtual 29, 3) := by decide +kernel
theorem dL_cells_302 : decode cL_cells 302 = .ok (.iadd, 1) := by decide +kernel
theorem dL_cells_303 : decode cL_cells 303 = .ok (.iastore, 1) := by decide +kernel
theorem dL_cells_304 : decode cL_cells 304 = .ok (.aload_n 0, 1) := by decide +kernel
theorem dL_cells_305 : decode cL_cells 305 = .ok (.iconst 1, 1) := by decide +kernel
theorem dL_cells_306 : decode cL_cells 306 = .ok (.iload 9, 2) := by decide +kernel
theorem dL_cells_308 : decode cL_cells 308 = .ok (.iload 10, 2) := by decide +kernel
theorem dL_cells_310 : decode cL_cells 310 = .ok (.invokevirtual 29, 3) := by decide +kernel
theorem dL_cells_313 : decode cL_cells 313 = .ok (.aload_n 0, 1) := by decide +kernel
theorem dL_cells_314 : decode cL_cells 314 = .ok (.iconst 0, 1) := by decide +kernel
theorem dL_cells_315 : decode cL_cells 315 = .ok (.iload_n 3, 1) := by decide +kernel
theorem dL_cells_316 : decode cL_cells 316 = .ok (.iload 4, 2) := by decide +kernel
theorem dL_cells_318 : decode cL_cells 318 = .ok (.invokevirtual 29, 3) := by decide +kernel
theorem dL_cells_321 : decode cL_cells 321 = .ok (.if_icmp .eq 5, 3) := by decide +kernel
theorem dL_cells_324 : decode cL_cells 324 = .ok (.iconst 0, 1) := by decide +kernel
theorem dL_cells_325 : decode cL_cells 325 = .ok (.ireturn, 1) := by decide +kernel
theorem dL_cells_326 : decode cL_cells 326 = .ok (.aload_n 0, 1) := by decide +kernel
theorem dL_cells_327 : decode cL_cells 327 = .ok (.iconst 0, 1) := by decide +kernel
theorem dL_cells_328 : decode cL_cells 328 = .ok (.iload_n 3, 1) := by decide +kernel
theorem dL_cells_329 : decode cL_cells 329 = .ok (.iconst 3, 1) := by decide +kernel
theorem dL_cells_330 : decode cL_cells 330 = .ok (.invokevirtual 15, 3) := by decide +kernel
theorem dL_cells_333 : decode cL_cells 333 = .ok (.istore 9, 2) := by decide +kernel
theorem dL_cells_335 : decode cL_cells 335 = .ok (.aload_n 0, 1) := by decide +kernel
theorem dL_cells_336 : decode cL_cells 336 = .ok (.iconst 1, 1) := by decide +kernel
theorem dL_cells_337 : decode cL_cells 337 = .ok (.iload 4, 2) := by decide +kernel
theorem dL_cells_339 : decode cL_cells 339 = .ok (.iconst 3, 1) := by decide +kernel
theorem dL_cells_340 : decode cL_cells 340 = .ok (.invokevirtual 15, 3) := by decide +kernel
theorem dL_cells_343 : decode cL_cells 343 = .ok (.istore 10, 2) := by decide +kernel
theorem dL_cells_345 : decode cL_cells 345 = .ok (.iload 9, 2) := by decide +kernel
theorem dL_cells_347 : decode cL_cells 347 = .ok (.ifCond .lt 32, 3) := by decide +kernel
theorem dL_cells_350 : decode cL_cells 350 = .ok (.iload 10, 2) := by decide +kernel
theorem dL_cells_352 : decode cL_cells 352 = .ok (.ifCond .lt 27, 3) := by decide +kernel
theorem dL_cells_355 : decode cL_cells 355 = .ok (.aload_n 2, 1) := by decide +kernel
theorem dL_cells_356 : decode cL_cells 356 = .ok (.iconst 2, 1) := by decide +kernel
theorem dL_cells_357 : decode cL_cells 357 = .ok (.dup2, 1) := by decide +kernel
theorem dL_cells_358 : decode cL_cells 358 = .ok (.iaload, 1) := by decide +kernel
theorem dL_cells_359 : decode cL_cells 359 = .ok (.iload 8, 2) := by decide +kernel
theorem dL_cells_361 : decode cL_cells 361 = .ok (.iadd, 1) := by decide +kernel
theorem dL_cells_362 : decode cL_cells 362 = .ok (.iastore, 1) := by decide +kernel
theorem dL_cells_363 : decode cL_cells 363 = .ok (.aload_n 0, 1) := by decide +kernel
theorem dL_cells_364 : decode cL_cells 364 = .ok (.iconst 2, 1) := by decide +kernel
theorem dL_cells_365 : decode cL_cells 365 = .ok (.iload 9, 2) := by decide +kernel
theorem dL_cells_367 : decode cL_cells 367 = .ok (.iload 10, 2) := by decide +kernel
theorem dL_cells_369 : decode cL_cells 369 = .ok (.invokevirtual 29, 3) := by decide +kernel
theorem dL_cells_372 : decode cL_cells 372 = .ok (.iload 8, 2) := by decide +kernel
theorem dL_cells_374 : decode cL_cells 374 = .ok (.if_icmp .eq 5, 3) := by decide +kernel
theorem dL_cells_377 : decode cL_cells 377 = .ok (.iconst 0, 1) := by decide +kernel
theorem dL_cells_378 : decode cL_cells 378 = .ok (.ireturn, 1) := by decide +kernel
theorem dL_cells_379 : decode cL_cells 379 = .ok (.iinc 4 1, 3) := by decide +kernel
theorem dL_cells_382 : decode cL_cells 382 = .ok (.goto (-361), 3) := by decide +kernel
theorem dL_cells_385 : decode cL_cells 385 = .ok (.iinc 3 1, 3) := by decide +kernel
theorem dL_cells_388 : decode cL_cells 388 = .ok (.goto (-380), 3) := by decide +kernel
theorem dL_cells_391 : decode cL_cells 391 = .ok (.aload_n 0, 1) := by decide +kernel
theorem dL_cells_392 : decode cL_cells 392 = .ok (.iconst 0, 1) := by decide +kernel
theorem dL_cells_393 : decode cL_cells 393 = .ok (.aload_n 0, 1) := by decide +kernel
theorem dL_cells_394 : decode cL_cells 394 = .ok (.iconst 0, 1) := by decide +kernel
theorem dL_cells_395 : decode cL_cells 395 = .ok (.iconst 0, 1) := by decide +kernel
theorem dL_cells_396 : decode cL_cells 396 = .ok (.invokevirtual 9, 3) := by decide +kernel
theorem dL_cells_399 : decode cL_cells 399 = .ok (.iconst 0, 1) := by decide +kernel
theorem dL_cells_400 : decode cL_cells 400 = .ok (.invokevirtual 29, 3) := by decide +kernel
theorem dL_cells_403 : decode cL_cells 403 = .ok (.iconst (-1), 1) := by decide +kernel
theorem dL_cells_404 : decode cL_cells 404 = .ok (.if_icmp .ne 45, 3) := by decide +kernel
theorem dL_cells_407 : decode cL_cells 407 = .ok (.aload_n 0, 1) := by decide +kernel
theorem dL_cells_408 : decode cL_cells 408 = .ok (.iconst 1, 1) := by decide +kernel
theorem dL_cells_409 : decode cL_cells 409 = .ok (.iconst 0, 1) := by decide +kernel
theorem dL_cells_410 : decode cL_cells 410 = .ok (.aload_n 0, 1) := by decide +kernel
theorem dL_cells_411 : decode cL_cells 411 = .ok (.iconst 1, 1) := by decide +kernel
theorem dL_cells_412 : decode cL_cells 412 = .ok (.iconst 1, 1) := by decide +kernel
theorem dL_cells_413 : decode cL_cells 413 = .ok (.invokevirtual 9, 3) := by decide +kernel
theorem dL_cells_416 : decode cL_cells 416 = .ok (.invokevirtual 29, 3) := by decide +kernel
theorem dL_cells_419 : decode cL_cells 419 = .ok (.iconst (-1), 1) := by decide +kernel
theorem dL_cells_420 : decode cL_cells 420 = .ok (.if_icmp .ne 29, 3) := by decide +kernel
theorem dL_cells_423 : decode cL_cells 423 = .ok (.aload_n 0, 1) := by decide +kernel
theorem dL_cells_424 : decode cL_cells 424 = .ok (.iconst 2, 1) := by decide +kernel
theorem dL_cells_425 : decode cL_cells 425 = .ok (.iconst (-1), 1) := by decide +kernel
theorem dL_cells_426 : decode cL_cells 426 = .ok (.iconst 0, 1) := by decide +kernel
theorem dL_cells_427 : decode cL_cells 427 = .ok (.invokevirtual 29, 3) := by decide +kernel
theorem dL_cells_430 : decode cL_cells 430 = .ok (.iconst (-1), 1) := by decide +kernel
theorem dL_cells_431 : decode cL_cells 431 = .ok (.if_icmp .ne 18, 3) := by decide +kernel
theorem dL_cells_434 : decode cL_cells 434 = .ok (.aload_n 0, 1) := by decide +kernel
theorem dL_cells_435 : decode cL_cells 435 = .ok (.iconst 3, 1) := by decide +kernel
theorem dL_cells_436 : decode cL_cells 436 = .ok (.iconst 0, 1) := by decide +kernel
theorem dL_cells_437 : decode cL_cells 437 = .ok (.iconst 0, 1) := by decide +kernel
theorem dL_cells_438 : decode cL_cells 438 = .ok (.invokevirtual 29, 3) := by decide +kernel
theorem dL_cells_441 : decode cL_cells 441 = .ok (.iconst (-1), 1) := by decide +kernel
theorem dL_cells_442 : decode cL_cells 442 = .ok (.if_icmp .ne 7, 3) := by decide +kernel
theorem dL_cells_445 : decode cL_cells 445 = .ok (.iconst 1, 1) := by decide +kernel
theorem dL_cells_446 : decode cL_cells 446 = .ok (.goto 4, 3) := by decide +kernel
theorem dL_cells_449 : decode cL_cells 449 = .ok (.iconst 0, 1) := by decide +kernel
theorem dL_cells_450 : decode cL_cells 450 = .ok (.istore_n 3, 1) := by decide +kernel
theorem dL_cells_451 : decode cL_cells 451 = .ok (.iload_n 3, 1) := by decide +kernel
theorem dL_cells_452 : decode cL_cells 452 = .ok (.ifCond .eq 59, 3) := by decide +kernel
theorem dL_cells_455 : decode cL_cells 455 = .ok (.aload_n 0, 1) := by decide +kernel
theorem dL_cells_456 : decode cL_cells 456 = .ok (.bipush 8, 2) := by decide +kernel
theorem dL_cells_458 : decode cL_cells 458 = .ok (.invokevirtual 22, 3) := by decide +kernel
theorem dL_cells_461 : decode cL_cells 461 = .ok (.iload_n 1, 1) := by decide +kernel
theorem dL_cells_462 : decode cL_cells 462 = .ok (.if_icmp .ne 49, 3) := by decide +kernel
theorem dL_cells_465 : decode cL_cells 465 = .ok (.aload_n 0, 1) := by decide +kernel
theorem dL_cells_466 : decode cL_cells 466 = .ok (.iconst 0, 1) := by decide +kernel
theorem dL_cells_467 : decode cL_cells 467 = .ok (.invokevirtual 32, 3) := by decide +kernel
theorem dL_cells_470 : decode cL_cells 470 = .ok (.aload_n 2, 1) := by decide +kernel
theorem dL_cells_471 : decode cL_cells 471 = .ok (.iconst 0, 1) := by decide +kernel
theorem dL_cells_472 : decode cL_cells 472 = .ok (.iaload, 1) := by decide +kernel
theorem dL_cells_473 : decode cL_cells 473 = .ok (.if_icmp .ne 38, 3) := by decide +kernel
theorem dL_cells_476 : decode cL_cells 476 = .ok (.aload_n 0, 1) := by decide +kernel
theorem dL_cells_477 : decode cL_cells 477 = .ok (.iconst 1, 1) := by decide +kernel
theorem dL_cells_478 : decode cL_cells 478 = .ok (.invokevirtual 32, 3) := by decide +kernel
theorem dL_cells_481 : decode cL_cells 481 = .ok (.aload_n 2, 1) := by decide +kernel
theorem dL_cells_482 : decode cL_cells 482 = .ok (.iconst 1, 1) := by decide +kernel
theorem dL_cells_483 : decode cL_cells 483 = .ok (.iaload, 1) := by decide +kernel
theorem dL_cells_484 : decode cL_cells 484 = .ok (.if_icmp .ne 27, 3) := by decide +kernel
theorem dL_cells_487 : decode cL_cells 487 = .ok (.aload_n 0, 1) := by decide +kernel
theorem dL_cells_488 : decode cL_cells 488 = .ok (.iconst 2, 1) := by decide +kernel
theorem dL_cells_489 : decode cL_cells 489 = .ok (.invokevirtual 32, 3) := by decide +kernel
theorem dL_cells_492 : decode cL_cells 492 = .ok (.aload_n 2, 1) := by decide +kernel
theorem dL_cells_493 : decode cL_cells 493 = .ok (.iconst 2, 1) := by decide +kernel
theorem dL_cells_494 : decode cL_cells 494 = .ok (.iaload, 1) := by decide +kernel
theorem dL_cells_495 : decode cL_cells 495 = .ok (.if_icmp .ne 16, 3) := by decide +kernel
theorem dL_cells_498 : decode cL_cells 498 = .ok (.aload_n 0, 1) := by decide +kernel
theorem dL_cells_499 : decode cL_cells 499 = .ok (.iconst 3, 1) := by decide +kernel
theorem dL_cells_500 : decode cL_cells 500 = .ok (.invokevirtual 32, 3) := by decide +kernel
theorem dL_cells_503 : decode cL_cells 503 = .ok (.iconst (-1), 1) := by decide +kernel
theorem dL_cells_504 : decode cL_cells 504 = .ok (.if_icmp .ne 7, 3) := by decide +kernel
theorem dL_cells_507 : decode cL_cells 507 = .ok (.iconst 1, 1) := by decide +kernel
theorem dL_cells_508 : decode cL_cells 508 = .ok (.goto 4, 3) := by decide +kernel
theorem dL_cells_511 : decode cL_cells 511 = .ok (.iconst 0, 1) := by decide +kernel
theorem dL_cells_512 : decode cL_cells 512 = .ok (.ireturn, 1) := by decide +kernel
theorem dL_rests_0 : decode cL_rests 0 = .ok (.aload_n 0, 1) := by decide +kernel
theorem dL_rests_1 : decode cL_rests 1 = .ok (.iload_n 1, 1) := by decide +kernel
theorem dL_rests_2 : decode cL_rests 2 = .ok (.iconst 0, 1) := by decide +kernel
theorem dL_rests_3 : decode cL_rests 3 = .ok (.invokevirtual 19, 3) := by decide +kernel
theorem dL_rests_6 : decode cL_rests 6 = .ok (.istore_n 3, 1) := by decide +kernel
theorem dL_rests_7 : decode cL_rests 7 = .ok (.aload_n 0, 1) := by decide +kernel
theorem dL_rests_8 : decode cL_rests 8 = .ok (.iload_n 2, 1) := by decide +kernel
theorem dL_rests_9 : decode cL_rests 9 = .ok (.iconst 0, 1) := by decide +kernel
theorem dL_rests_10 : decode cL_rests 10 = .ok (.invokevirtual 19, 3) := by decide +kernel
theorem dL_rests_13 : decode cL_rests 13 = .ok (.istore 4, 2) := by decide +kernel
theorem dL_rests_15 : decode cL_rests 15 = .ok (.aload_n 0, 1) := by decide +kernel
theorem dL_rests_16 : decode cL_rests 16 = .ok (.iload_n 1, 1) := by decide +kernel
theorem dL_rests_17 : decode cL_rests 17 = .ok (.iconst 2, 1) := by decide +kernel
theorem dL_rests_18 : decode cL_rests 18 = .ok (.invokevirtual 19, 3) := by decide +kernel
theorem dL_rests_21 : decode cL_rests 21 = .ok (.ifCond .ne 16, 3) := by decide +kernel
theorem dL_rests_24 : decode cL_rests 24 = .ok (.aload_n 0, 1) := by decide +kernel
theorem dL_rests_25 : decode cL_rests 25 = .ok (.iload_n 2, 1) := by decide +kernel
theorem dL_rests_26 : decode cL_rests 26 = .ok (.iconst 2, 1) := by decide +kernel
theorem dL_rests_27 : decode cL_rests 27 = .ok (.invokevirtual 19, 3) := by decide +kernel
theorem dL_rests_30 : decode cL_rests 30 = .ok (.ifCond .ne 7, 3) := by decide +kernel
theorem dL_rests_33 : decode cL_rests 33 = .ok (.iconst 1, 1) := by decide +kernel
theorem dL_rests_34 : decode cL_rests 34 = .ok (.goto 4, 3) := by decide +kernel
theorem dL_rests_37 : decode cL_rests 37 = .ok (.iconst 0, 1) := by decide +kernel
theorem dL_rests_38 : decode cL_rests 38 = .ok (.istore 5, 2) := by decide +kernel
theorem dL_rests_40 : decode cL_rests 40 = .ok (.iload 4, 2) := by decide +kernel
theorem dL_rests_42 : decode cL_rests 42 = .ok (.ifCond .ne 32, 3) := by decide +kernel
theorem dL_rests_45 : decode cL_rests 45 = .ok (.iload_n 3, 1) := by decide +kernel
theorem dL_rests_46 : decode cL_rests 46 = .ok (.iconst 1, 1) := by decide +kernel
theorem dL_rests_47 : decode cL_rests 47 = .ok (.if_icmp .eq 8, 3) := by decide +kernel
theorem dL_rests_50 : decode cL_rests 50 = .ok (.iload_n 3, 1) := by decide +kernel
theorem dL_rests_51 : decode cL_rests 51 = .ok (.iconst 4, 1) := by decide +kernel
theorem dL_rests_52 : decode cL_rests 52 = .ok (.if_icmp .ne 22, 3) := by decide +kernel
theorem dL_rests_55 : decode cL_rests 55 = .ok (.aload_n 0, 1) := by decide +kernel
theorem dL_rests_56 : decode cL_rests 56 = .ok (.iload_n 2, 1) := by decide +kernel
theorem dL_rests_57 : decode cL_rests 57 = .ok (.iconst 3, 1) := by decide +kernel
theorem dL_rests_58 : decode cL_rests 58 = .ok (.invokevirtual 19, 3) := by decide +kernel
theorem dL_rests_61 : decode cL_rests 61 = .ok (.aload_n 0, 1) := by decide +kernel
theorem dL_rests_62 : decode cL_rests 62 = .ok (.iload_n 1, 1) := by decide +kernel
theorem dL_rests_63 : decode cL_rests 63 = .ok (.iconst 3, 1) := by decide +kernel
theorem dL_rests_64 : decode cL_rests 64 = .ok (.invokevirtual 19, 3) := by decide +kernel
theorem dL_rests_67 : decode cL_rests 67 = .ok (.if_icmp .ne 7, 3) := by decide +kernel
theorem dL_rests_70 : decode cL_rests 70 = .ok (.iconst 1, 1) := by decide +kernel
theorem dL_rests_71 : decode cL_rests 71 = .ok (.goto 4, 3) := by decide +kernel
theorem dL_rests_74 : decode cL_rests 74 = .ok (.iconst 0, 1) := by decide +kernel
theorem dL_rests_75 : decode cL_rests 75 = .ok (.istore 6, 2) := by decide +kernel
theorem dL_rests_77 : decode cL_rests 77 = .ok (.iload 4, 2) := by decide +kernel
theorem dL_rests_79 : decode cL_rests 79 = .ok (.iconst 2, 1) := by decide +kernel
theorem dL_rests_80 : decode cL_rests 80 = .ok (.if_icmp .ne 32, 3) := by decide +kernel
theorem dL_rests_83 : decode cL_rests 83 = .ok (.iload_n 3, 1) := by decide +kernel
theorem dL_rests_84 : decode cL_rests 84 = .ok (.iconst 3, 1) := by decide +kernel
theorem dL_rests_85 : decode cL_rests 85 = .ok (.if_icmp .eq 8, 3) := by decide +kernel
theorem dL_rests_88 : decode cL_rests 88 = .ok (.iload_n 3, 1) := by decide +kernel
theorem dL_rests_89 : decode cL_rests 89 = .ok (.iconst 4, 1) := by decide +kernel
theorem dL_rests_90 : decode cL_rests 90 = .ok (.if_icmp .ne 22, 3) := by decide +kernel
theorem dL_rests_93 : decode cL_rests 93 = .ok (.aload_n 0, 1) := by decide +kernel
theorem dL_rests_94 : decode cL_rests 94 = .ok (.iload_n 2, 1) := by decide +kernel
theorem dL_rests_95 : decode cL_rests 95 = .ok (.iconst 4, 1) := by decide +kernel
theorem dL_rests_96 : decode cL_rests 96 = .ok (.invokevirtual 19, 3) := by decide +kernel
theorem dL_rests_99 : decode cL_rests 99 = .ok (.aload_n 0, 1) := by decide +kernel
theorem dL_rests_100 : decode cL_rests 100 = .ok (.iload_n 1, 1) := by decide +kernel
theorem dL_rests_101 : decode cL_rests 101 = .ok (.iconst 4, 1) := by decide +kernel
theorem dL_rests_102 : decode cL_rests 102 = .ok (.invokevirtual 19, 3) := by decide +kernel
theorem dL_rests_105 : decode cL_rests 105 = .ok (.if_icmp .ne 7, 3) := by decide +kernel
theorem dL_rests_108 : decode cL_rests 108 = .ok (.iconst 1, 1) := by decide +kernel
theorem dL_rests_109 : decode cL_rests 109 = .ok (.goto 4, 3) := by decide +kernel
theorem dL_rests_112 : decode cL_rests 112 = .ok (.iconst 0, 1) := by decide +kernel
theorem dL_rests_113 : decode cL_rests 113 = .ok (.istore 7, 2) := by decide +kernel
theorem dL_rests_115 : decode cL_rests 115 = .ok (.iload 4, 2) := by decide +kernel
theorem dL_rests_117 : decode cL_rests 117 = .ok (.iconst 4, 1) := by decide +kernel
theorem dL_rests_118 : decode cL_rests 118 = .ok (.if_icmp .ne 47, 3) := by decide +kernel
theorem dL_rests_121 : decode cL_rests 121 = .ok (.iload_n 3, 1) := by decide +kernel
theorem dL_rests_122 : decode cL_rests 122 = .ok (.iconst 4, 1) := by decide +kernel
theorem dL_rests_123 : decode cL_rests 123 = .ok (.if_icmp .ne 42, 3) := by decide +kernel
theorem dL_rests_126 : decode cL_rests 126 = .ok (.iload_n 2, 1) := by decide +kernel
theorem dL_rests_127 : decode cL_rests 127 = .ok (.iload_n 1, 1) := by decide +kernel
theorem dL_rests_128 : decode cL_rests 128 = .ok (.if_icmp .ge 37, 3) := by decide +kernel
theorem dL_rests_131 : decode cL_rests 131 = .ok (.aload_n 0, 1) := by decide +kernel
theorem dL_rests_132 : decode cL_rests 132 = .ok (.iload_n 2, 1) := by decide +kernel
theorem dL_rests_133 : decode cL_rests 133 = .ok (.iconst 3, 1) := by decide +kernel
theorem dL_rests_134 : decode cL_rests 134 = .ok (.invokevirtual 19, 3) := by decide +kernel
theorem dL_rests_137 : decode cL_rests 137 = .ok (.aload_n 0, 1) := by decide +kernel
theorem dL_rests_138 : decode cL_rests 138 = .ok (.iload_n 1, 1) := by decide +kernel
theorem dL_rests_139 : decode cL_rests 139 = .ok (.iconst 3, 1) := by decide +kernel
theorem dL_rests_140 : decode cL_rests 140 = .ok (.invokevirtual 19, 3) := by decide +kernel
theorem dL_rests_143 : decode cL_rests 143 = .ok (.if_icmp .ne 22, 3) := by decide +kernel
theorem dL_rests_146 : decode cL_rests 146 = .ok (.aload_n 0, 1) := by decide +kernel
theorem dL_rests_147 : decode cL_rests 147 = .ok (.iload_n 2, 1) := by decide +kernel
theorem dL_rests_148 : decode cL_rests 148 = .ok (.iconst 4, 1) := by decide +kernel
theorem dL_rests_149 : decode cL_rests 149 = .ok (.invokevirtual 19, 3) := by decide +kernel
theorem dL_rests_152 : decode cL_rests 152 = .ok (.aload_n 0, 1) := by decide +kernel
theorem dL_rests_153 : decode cL_rests 153 = .ok (.iload_n 1, 1) := by decide +kernel
theorem dL_rests_154 : decode cL_rests 154 = .ok (.iconst 4, 1) := by decide +kernel
theorem dL_rests_155 : decode cL_rests 155 = .ok (.invokevirtual 19, 3) := by decide +kernel
theorem dL_rests_158 : decode cL_rests 158 = .ok (.if_icmp .ne 7, 3) := by decide +kernel
theorem dL_rests_161 : decode cL_rests 161 = .ok (.iconst 1, 1) := by decide +kernel
theorem dL_rests_162 : decode cL_rests 162 = .ok (.goto 4, 3) := by decide +kernel
theorem dL_rests_165 : decode cL_rests 165 = .ok (.iconst 0, 1) := by decide +kernel
theorem dL_rests_166 : decode cL_rests 166 = .ok (.istore 8, 2) := by decide +kernel
theorem dL_rests_168 : decode cL_rests 168 = .ok (.iload 5, 2) := by decide +kernel
theorem dL_rests_170 : decode cL_rests 170 = .ok (.ifCond .eq 22, 3) := by decide +kernel
theorem dL_rests_173 : decode cL_rests 173 = .ok (.iload 6, 2) := by decide +kernel
theorem dL_rests_175 : decode cL_rests 175 = .ok (.ifCond .ne 13, 3) := by decide +kernel
theorem dL_rests_178 : decode cL_rests 178 = .ok (.iload 7, 2) := by decide +kernel
theorem dL_rests_180 : decode cL_rests 180 = .ok (.ifCond .ne 8, 3) := by decide +kernel
theorem dL_rests_183 : decode cL_rests 183 = .ok (.iload 8, 2) := by decide +kernel
theorem dL_rests_185 : decode cL_rests 185 = .ok (.ifCond .eq 7, 3) := by decide +kernel
theorem dL_rests_188 : decode cL_rests 188 = .ok (.iconst 1, 1) := by decide +kernel
theorem dL_rests_189 : decode cL_rests 189 = .ok (.goto 4, 3) := by decide +kernel
theorem dL_rests_192 : decode cL_rests 192 = .ok (.iconst 0, 1) := by decide +kernel
theorem dL_rests_193 : decode cL_rests 193 = .ok (.ireturn, 1) := by decide +kernel
theorem dL_changes_0 : decode cL_changes 0 = .ok (.iconst 4, 1) := by decide +kernel
theorem dL_changes_1 : decode cL_changes 1 = .ok (.newarray .int, 2) := by decide +kernel
theorem dL_changes_3 : decode cL_changes 3 = .ok (.astore_n 1, 1) := by decide +kernel
theorem dL_changes_4 : decode cL_changes 4 = .ok (.bipush 16, 2) := by decide +kernel
theorem dL_changes_6 : decode cL_changes 6 = .ok (.newarray .int, 2) := by decide +kernel
theorem dL_changes_8 : decode cL_changes 8 = .ok (.astore_n 2, 1) := by decide +kernel
theorem dL_changes_9 : decode cL_changes 9 = .ok (.iconst 0, 1) := by decide +kernel
theorem dL_changes_10 : decode cL_changes 10 = .ok (.istore_n 3, 1) := by decide +kernel
theorem dL_changes_11 : decode cL_changes 11 = .ok (.iconst 0, 1) := by decide +kernel
theorem dL_changes_12 : decode cL_changes 12 = .ok (.istore 4, 2) := by decide +kernel
theorem dL_changes_14 : decode cL_changes 14 = .ok (.iload 4, 2) := by decide +kernel
theorem dL_changes_16 : decode cL_changes 16 = .ok (.aload_n 0, 1) := by decide +kernel
theorem dL_changes_17 : decode cL_changes 17 = .ok (.iconst 0, 1) := by decide +kernel
theorem dL_changes_18 : decode cL_changes 18 = .ok (.invokevirtual 22, 3) := by decide +kernel
theorem dL_changes_21 : decode cL_changes 21 = .ok (.if_icmp .ge 251, 3) := by decide +kernel
theorem dL_changes_24 : decode cL_changes 24 = .ok (.aload_n 0, 1) := by decide +kernel
theorem dL_changes_25 : decode cL_changes 25 = .ok (.iload 4, 2) := by decide +kernel
theorem dL_changes_27 : decode cL_changes 27 = .ok (.iconst 2, 1) := by decide +kernel
theorem dL_changes_28 : decode cL_changes 28 = .ok (.invokevirtual 19, 3) := by decide +kernel
theorem dL_changes_31 : decode cL_changes 31 = .ok (.istore 5, 2) := by decide +kernel
theorem dL_changes_33 : decode cL_changes 33 = .ok (.aload_n 0, 1) := by decide +kernel
theorem dL_changes_34 : decode cL_changes 34 = .ok (.iload 4, 2) := by decide +kernel
theorem dL_changes_36 : decode cL_changes 36 = .ok (.iconst 0, 1) := by decide +kernel
theorem dL_changes_37 : decode cL_changes 37 = .ok (.invokevirtual 19, 3) := by decide +kernel
theorem dL_changes_40 : decode cL_changes 40 = .ok (.istore 6, 2) := by decide +kernel
theorem dL_changes_42 : decode cL_changes 42 = .ok (.iconst 0, 1) := by decide +kernel
theorem dL_changes_43 : decode cL_changes 43 = .ok (.istore 7, 2) := by decide +kernel
theorem dL_changes_45 : decode cL_changes 45 = .ok (.iconst 0, 1) := by decide +kernel
theorem dL_changes_46 : decode cL_changes 46 = .ok (.istore 8, 2) := by decide +kernel
theorem dL_changes_48 : decode cL_changes 48 = .ok (.aload_n 1, 1) := by decide +kernel
theorem dL_changes_49 : decode cL_changes 49 = .ok (.iload 5, 2) := by decide +kernel
theorem dL_changes_51 : decode cL_changes 51 = .ok (.dup2, 1) := by decide +kernel
theorem dL_changes_52 : decode cL_changes 52 = .ok (.iaload, 1) := by decide +kernel
theorem dL_changes_53 : decode cL_changes 53 = .ok (.iconst 1, 1) := by decide +kernel
theorem dL_changes_54 : decode cL_changes 54 = .ok (.iadd, 1) := by decide +kernel
theorem dL_changes_55 : decode cL_changes 55 = .ok (.iastore, 1) := by decide +kernel
theorem dL_changes_56 : decode cL_changes 56 = .ok (.aload_n 2, 1) := by decide +kernel
theorem dL_changes_57 : decode cL_changes 57 = .ok (.iconst 4, 1) := by decide +kernel
theorem dL_changes_58 : decode cL_changes 58 = .ok (.aload_n 0, 1) := by decide +kernel
theorem dL_changes_59 : decode cL_changes 59 = .ok (.iload 4, 2) := by decide +kernel
theorem dL_changes_61 : decode cL_changes 61 = .ok (.iconst 1, 1) := by decide +kernel
theorem dL_changes_62 : decode cL_changes 62 = .ok (.invokevirtual 19, 3) := by decide +kernel
theorem dL_changes_65 : decode cL_changes 65 = .ok (.imul, 1) := by decide +kernel
theorem dL_changes_66 : decode cL_changes 66 = .ok (.iload 5, 2) := by decide +kernel
theorem dL_changes_68 : decode cL_changes 68 = .ok (.iadd, 1) := by decide +kernel
theorem dL_changes_69 : decode cL_changes 69 = .ok (.dup2, 1) := by decide +kernel
theorem dL_changes_70 : decode cL_changes 70 = .ok (.iaload, 1) := by decide +kernel
theorem dL_changes_71 : decode cL_changes 71 = .ok (.iconst 1, 1) := by decide +kernel
theorem dL_changes_72 : decode cL_changes 72 = .ok (.iadd, 1) := by decide +kernel
theorem dL_changes_73 : decode cL_changes 73 = .ok (.iastore, 1) := by decide +kernel
theorem dL_changes_74 : decode cL_changes 74 = .ok (.iconst 0, 1) := by decide +kernel
theorem dL_changes_75 : decode cL_changes 75 = .ok (.istore 9, 2) := by decide +kernel
theorem dL_changes_77 : decode cL_changes 77 = .ok (.iload 9, 2) := by decide +kernel
theorem dL_changes_79 : decode cL_changes 79 = .ok (.aload_n 0, 1) := by decide +kernel
theorem dL_changes_80 : decode cL_changes 80 = .ok (.iconst 0, 1) := by decide +kernel
theorem dL_changes_81 : decode cL_changes 81 = .ok (.invokevirtual 22, 3) := by decide +kernel
theorem dL_changes_84 : decode cL_changes 84 = .ok (.if_icmp .ge 64, 3) := by decide +kernel
theorem dL_changes_87 : decode cL_changes 87 = .ok (.iload 9, 2) := by decide +kernel
theorem dL_changes_89 : decode cL_changes 89 = .ok (.iload 4, 2) := by decide +kernel
theorem dL_changes_91 : decode cL_changes 91 = .ok (.if_icmp .ne 6, 3) := by decide +kernel
theorem dL_changes_94 : decode cL_changes 94 = .ok (.goto 48, 3) := by decide +kernel
theorem dL_changes_97 : decode cL_changes 97 = .ok (.aload_n 0, 1) := by decide +kernel
theorem dL_changes_98 : decode cL_changes 98 = .ok (.iload 4, 2) := by decide +kernel
theorem dL_changes_100 : decode cL_changes 100 = .ok (.iload 9, 2) := by decide +kernel
theorem dL_changes_102 : decode cL_changes 102 = .ok (.invokestatic 35, 3) := by decide +kernel
theorem dL_changes_105 : decode cL_changes 105 = .ok (.istore 10, 2) := by decide +kernel
theorem dL_changes_107 : decode cL_changes 107 = .ok (.aload_n 0, 1) := by decide +kernel
theorem dL_changes_108 : decode cL_changes 108 = .ok (.iload 4, 2) := by decide +kernel
theorem dL_changes_110 : decode cL_changes 110 = .ok (.iload 9, 2) := by decide +kernel
theorem dL_changes_112 : decode cL_changes 112 = .ok (.invokevirtual 41, 3) := by decide +kernel
theorem dL_changes_115 : decode cL_changes 115 = .ok (.iload 10, 2) := by decide +kernel
theorem dL_changes_117 : decode cL_changes 117 = .ok (.if_icmp .eq 5, 3) := by decide +kernel
theorem dL_changes_120 : decode cL_changes 120 = .ok (.iconst 0, 1) := by decide +kernel
theorem dL_changes_121 : decode cL_changes 121 = .ok (.ireturn, 1) := by decide +kernel
theorem dL_changes_122 : decode cL_changes 122 = .ok (.iload 7, 2) := by decide +kernel
theorem dL_changes_124 : decode cL_changes 124 = .ok (.iload 10, 2) := by decide +kernel
theorem dL_changes_126 : decode cL_changes 126 = .ok (.iadd, 1) := by decide +kernel
theorem dL_changes_127 : decode cL_changes 127 = .ok (.istore 7, 2) := by decide +kernel
theorem dL_changes_129 : decode cL_changes 129 = .ok (.iload 8, 2) := by decide +kernel
theorem dL_changes_131 : decode cL_changes 131 = .ok (.aload_n 0, 1) := by decide +kernel
theorem dL_changes_132 : decode cL_changes 132 = .ok (.iload 9, 2) := by decide +kernel
theorem dL_changes_134 : decode cL_changes 134 = .ok (.iload 4, 2) := by decide +kernel
theorem dL_changes_136 : decode cL_changes 136 = .ok (.invokestatic 35, 3) := by decide +kernel
theorem dL_changes_139 : decode cL_changes 139 = .ok (.iadd, 1) := by decide +kernel
theorem dL_changes_140 : decode cL_changes 140 = .ok (.istore 8, 2) := by decide +kernel
theorem dL_changes_142 : decode cL_changes 142 = .ok (.iinc 9 1, 3) := by decide +kernel
theorem dL_changes_145 : decode cL_changes 145 = .ok (.goto (-68), 3) := by decide +kernel
theorem dL_changes_148 : decode cL_changes 148 = .ok (.aload_n 0, 1) := by decide +kernel
theorem dL_changes_149 : decode cL_changes 149 = .ok (.iload 4, 2) := by decide +kernel
theorem dL_changes_151 : decode cL_changes 151 = .ok (.bipush 7, 2) := by decide +kernel
theorem dL_changes_153 : decode cL_changes 153 = .ok (.invokevirtual 19, 3) := by decide +kernel
theorem dL_changes_156 : decode cL_changes 156 = .ok (.iload 7, 2) := by decide +kernel
theorem dL_changes_158 : decode cL_changes 158 = .ok (.if_icmp .ne 106, 3) := by decide +kernel
theorem dL_changes_161 : decode cL_changes 161 = .ok (.aload_n 0, 1) := by decide +kernel
theorem dL_changes_162 : decode cL_changes 162 = .ok (.iload 4, 2) := by decide +kernel
theorem dL_changes_164 : decode cL_changes 164 = .ok (.bipush 8, 2) := by decide +kernel
theorem dL_changes_166 : decode cL_changes 166 = .ok (.invokevirtual 19, 3) := by decide +kernel
theorem dL_changes_169 : decode cL_changes 169 = .ok (.iload 8, 2) := by decide +kernel
theorem dL_changes_171 : decode cL_changes 171 = .ok (.if_icmp .ne 93, 3) := by decide +kernel
theorem dL_changes_174 : decode cL_changes 174 = .ok (.iload 6, 2) := by decide +kernel
theorem dL_changes_176 : decode cL_changes 176 = .ok (.iconst 4, 1) := by decide +kernel
theorem dL_changes_177 : decode cL_changes 177 = .ok (.if_icmp .ne 7, 3) := by decide +kernel
theorem dL_changes_180 : decode cL_changes 180 = .ok (.iconst 1, 1) := by decide +kernel
theorem dL_changes_181 : decode cL_changes 181 = .ok (.goto 4, 3) := by decide +kernel
theorem dL_changes_184 : decode cL_changes 184 = .ok (.iconst 0, 1) := by decide +kernel
theorem dL_changes_185 : decode cL_changes 185 = .ok (.aload_n 0, 1) := by decide +kernel
theorem dL_changes_186 : decode cL_changes 186 = .ok (.iload 4, 2) := by decide +kernel
theorem dL_changes_188 : decode cL_changes 188 = .ok (.iconst 5, 1) := by decide +kernel
theorem dL_changes_189 : decode cL_changes 189 = .ok (.invokevirtual 19, 3) := by decide +kernel
theorem dL_changes_192 : decode cL_changes 192 = .ok (.ifCond .lt 7, 3) := by decide +kernel
theorem dL_changes_195 : decode cL_changes 195 = .ok (.iconst 1, 1) := by decide +kernel
theorem dL_changes_196 : decode cL_changes 196 = .ok (.goto 4, 3) := by decide +kernel
theorem dL_changes_199 : decode cL_changes 199 = .ok (.iconst 0, 1) := by decide +kernel
theorem dL_changes_200 : decode cL_changes 200 = .ok (.if_icmp .ne 64, 3) := by decide +kernel
theorem dL_changes_203 : decode cL_changes 203 = .ok (.iload 6, 2) := by decide +kernel
theorem dL_changes_205 : decode cL_changes 205 = .ok (.iconst 4, 1) := by decide +kernel
theorem dL_changes_206 : decode cL_changes 206 = .ok (.if_icmp .ne 12, 3) := by decide +kernel
theorem dL_changes_209 : decode cL_changes 209 = .ok (.iload 5, 2) := by decide +kernel
theorem dL_changes_211 : decode cL_changes 211 = .ok (.ifCond .ne 7, 3) := by decide +kernel
theorem dL_changes_214 : decode cL_changes 214 = .ok (.iconst 1, 1) := by decide +kernel
theorem dL_changes_215 : decode cL_changes 215 = .ok (.goto 4, 3) := by decide +kernel
theorem dL_changes_218 : decode cL_changes 218 = .ok (.iconst 0, 1) := by decide +kernel
theorem dL_changes_219 : decode cL_changes 219 = .ok (.aload_n 0, 1) := by decide +kernel
theorem dL_changes_220 : decode cL_changes 220 = .ok (.iload 4, 2) := by decide +kernel
theorem dL_changes_222 : decode cL_changes 222 = .ok (.bipush 6, 2) := by decide +kernel
theorem dL_changes_224 : decode cL_changes 224 = .ok (.invokevirtual 19, 3) := by decide +kernel
theorem dL_changes_227 : decode cL_changes 227 = .ok (.ifCond .lt 7, 3) := by decide +kernel
theorem dL_changes_230 : decode cL_changes 230 = .ok (.iconst 1, 1) := by decide +kernel
theorem dL_changes_231 : decode cL_changes 231 = .ok (.goto 4, 3) := by decide +kernel
theorem dL_changes_234 : decode cL_changes 234 = .ok (.iconst 0, 1) := by decide +kernel
theorem dL_changes_235 : decode cL_changes 235 = .ok (.if_icmp .ne 29, 3) := by decide +kernel
theorem dL_changes_238 : decode cL_changes 238 = .ok (.aload_n 0, 1) := by decide +kernel
theorem dL_changes_239 : decode cL_changes 239 = .ok (.iload 4, 2) := by decide +kernel
theorem dL_changes_241 : decode cL_changes 241 = .ok (.bipush 9, 2) := by decide +kernel
theorem dL_changes_243 : decode cL_changes 243 = .ok (.invokevirtual 19, 3) := by decide +kernel
theorem dL_changes_246 : decode cL_changes 246 = .ok (.bipush (-2), 2) := by decide +kernel
theorem dL_changes_248 : decode cL_changes 248 = .ok (.if_icmp .ne 16, 3) := by decide +kernel
theorem dL_changes_251 : decode cL_changes 251 = .ok (.aload_n 0, 1) := by decide +kernel
theorem dL_changes_252 : decode cL_changes 252 = .ok (.iload 4, 2) := by decide +kernel
theorem dL_changes_254 : decode cL_changes 254 = .ok (.iload 4, 2) := by decide +kernel
theorem dL_changes_256 : decode cL_changes 256 = .ok (.invokevirtual 41, 3) := by decide +kernel
theorem dL_changes_259 : decode cL_changes 259 = .ok (.bipush (-2), 2) := by decide +kernel
theorem dL_changes_261 : decode cL_changes 261 = .ok (.if_icmp .eq 5, 3) := by decide +kernel
theorem dL_changes_264 : decode cL_changes 264 = .ok (.iconst 0, 1) := by decide +kernel
theorem dL_changes_265 : decode cL_changes 265 = .ok (.ireturn, 1) := by decide +kernel
theorem dL_changes_266 : decode cL_changes 266 = .ok (.iinc 4 1, 3) := by decide +kernel
theorem dL_changes_269 : decode cL_changes 269 = .ok (.goto (-255), 3) := by decide +kernel
theorem dL_changes_272 : decode cL_changes 272 = .ok (.iconst (-1), 1) := by decide +kernel
theorem dL_changes_273 : decode cL_changes 273 = .ok (.istore 4, 2) := by decide +kernel
theorem dL_changes_275 : decode cL_changes 275 = .ok (.iconst 0, 1) := by decide +kernel
theorem dL_changes_276 : decode cL_changes 276 = .ok (.istore 5, 2) := by decide +kernel
theorem dL_changes_278 : decode cL_changes 278 = .ok (.iload 5, 2) := by decide +kernel
theorem dL_changes_280 : decode cL_changes 280 = .ok (.aload_n 1, 1) := by decide +kernel
theorem dL_changes_281 : decode cL_changes 281 = .ok (.iconst 0, 1) := by decide +kernel
theorem dL_changes_282 : decode cL_changes 282 = .ok (.iaload, 1) := by decide +kernel
theorem dL_changes_283 : decode cL_changes 283 = .ok (.if_icmp .ge 57, 3) := by decide +kernel
theorem dL_changes_286 : decode cL_changes 286 = .ok (.aload_n 0, 1) := by decide +kernel
theorem dL_changes_287 : decode cL_changes 287 = .ok (.iload 5, 2) := by decide +kernel
theorem dL_changes_289 : decode cL_changes 289 = .ok (.invokevirtual 44, 3) := by decide +kernel
theorem dL_changes_292 : decode cL_changes 292 = .ok (.istore 6, 2) := by decide +kernel
theorem dL_changes_294 : decode cL_changes 294 = .ok (.iload 6, 2) := by decide +kernel
theorem dL_changes_296 : decode cL_changes 296 = .ok (.ifCond .lt 29, 3) := by decide +kernel
theorem dL_changes_299 : decode cL_changes 299 = .ok (.aload_n 0, 1) := by decide +kernel
theorem dL_changes_300 : decode cL_changes 300 = .ok (.iload 6, 2) := by decide +kernel
theorem dL_changes_302 : decode cL_changes 302 = .ok (.iconst 2, 1) := by decide +kernel
theorem dL_changes_303 : decode cL_changes 303 = .ok (.invokevirtual 19, 3) := by decide +kernel
theorem dL_changes_306 : decode cL_changes 306 = .ok (.ifCond .ne 19, 3) := by decide +kernel
theorem dL_changes_309 : decode cL_changes 309 = .ok (.iload 4, 2) := by decide +kernel
theorem dL_changes_311 : decode cL_changes 311 = .ok (.ifCond .lt 16, 3) := by decide +kernel
theorem dL_changes_314 : decode cL_changes 314 = .ok (.aload_n 0, 1) := by decide +kernel
theorem dL_changes_315 : decode cL_changes 315 = .ok (.iload 4, 2) := by decide +kernel
theorem dL_changes_317 : decode cL_changes 317 = .ok (.iload 6, 2) := by decide +kernel
theorem dL_changes_319 : decode cL_changes 319 = .ok (.invokestatic 47, 3) := by decide +kernel
theorem dL_changes_322 : decode cL_changes 322 = .ok (.ifCond .ne 5, 3) := by decide +kernel
theorem dL_changes_325 : decode cL_changes 325 = .ok (.iconst 0, 1) := by decide +kernel
theorem dL_changes_326 : decode cL_changes 326 = .ok (.ireturn, 1) := by decide +kernel
theorem dL_changes_327 : decode cL_changes 327 = .ok (.iload 6, 2) := by decide +kernel
theorem dL_changes_329 : decode cL_changes 329 = .ok (.istore 4, 2) := by decide +kernel
theorem dL_changes_331 : decode cL_changes 331 = .ok (.iinc 3 1, 3) := by decide +kernel
theorem dL_changes_334 : decode cL_changes 334 = .ok (.iinc 5 1, 3) := by decide +kernel
theorem dL_changes_337 : decode cL_changes 337 = .ok (.goto (-59), 3) := by decide +kernel
theorem dL_changes_340 : decode cL_changes 340 = .ok (.iconst 0, 1) := by decide +kernel
theorem dL_changes_341 : decode cL_changes 341 = .ok (.istore 5, 2) := by decide +kernel
theorem dL_changes_343 : decode cL_changes 343 = .ok (.iload 5, 2) := by decide +kernel
theorem dL_changes_345 : decode cL_changes 345 = .ok (.iconst 4, 1) := by decide +kernel
theorem dL_changes_346 : decode cL_changes 346 = .ok (.if_icmp .ge 61, 3) := by decide +kernel
theorem dL_changes_349 : decode cL_changes 349 = .ok (.iconst 0, 1) := by decide +kernel
theorem dL_changes_350 : decode cL_changes 350 = .ok (.istore 6, 2) := by decide +kernel
theorem dL_changes_352 : decode cL_changes 352 = .ok (.iload 6, 2) := by decide +kernel
theorem dL_changes_354 : decode cL_changes 354 = .ok (.iconst 4, 1) := by decide +kernel
theorem dL_changes_355 : decode cL_changes 355 = .ok (.if_icmp .ge 46, 3) := by decide +kernel
theorem dL_changes_358 : decode cL_changes 358 = .ok (.aload_n 0, 1) := by decide +kernel
theorem dL_changes_359 : decode cL_changes 359 = .ok (.iload 5, 2) := by decide +kernel
theorem dL_changes_361 : decode cL_changes 361 = .ok (.iload 6, 2) := by decide +kernel
theorem dL_changes_363 : decode cL_changes 363 = .ok (.invokevirtual 51, 3) := by decide +kernel
theorem dL_changes_366 : decode cL_changes 366 = .ok (.aload_n 2, 1) := by decide +kernel
theorem dL_changes_367 : decode cL_changes 367 = .ok (.iconst 4, 1) := by decide +kernel
theorem dL_changes_368 : decode cL_changes 368 = .ok (.iload 5, 2) := by decide +kernel
theorem dL_changes_370 : decode cL_changes 370 = .ok (.imul, 1) := by decide +kernel
theorem dL_changes_371 : decode cL_changes 371 = .ok (.iload 6, 2) := by decide +kernel
theorem dL_changes_373 : decode cL_changes 373 = .ok (.iadd, 1) := by decide +kernel
theorem dL_changes_374 : decode cL_changes 374 = .ok (.iaload, 1) := by decide +kernel
theorem dL_changes_375 : decode cL_changes 375 = .ok (.if_icmp .ne 18, 3) := by decide +kernel
theorem dL_changes_378 : decode cL_changes 378 = .ok (.aload_n 0, 1) := by decide +kernel
theorem dL_changes_379 : decode cL_changes 379 = .ok (.iconst 1, 1) := by decide +kernel
theorem dL_changes_380 : decode cL_changes 380 = .ok (.iload 6, 2) := by decide +kernel
theorem dL_changes_382 : decode cL_changes 382 = .ok (.iadd, 1) := by decide +kernel
theorem dL_changes_383 : decode cL_changes 383 = .ok (.invokevirtual 22, 3) := by decide +kernel
theorem dL_changes_386 : decode cL_changes 386 = .ok (.aload_n 1, 1) := by decide +kernel
theorem dL_changes_387 : decode cL_changes 387 = .ok (.iload 6, 2) := by decide +kernel
theorem dL_changes_389 : decode cL_changes 389 = .ok (.iaload, 1) := by decide +kernel
theorem dL_changes_390 : decode cL_changes 390 = .ok (.if_icmp .eq 5, 3) := by decide +kernel
theorem dL_changes_393 : decode cL_changes 393 = .ok (.iconst 0, 1) := by decide +kernel
theorem dL_changes_394 : decode cL_changes 394 = .ok (.ireturn, 1) := by decide +kernel
theorem dL_changes_395 : decode cL_changes 395 = .ok (.iinc 6 1, 3) := by decide +kernel
theorem dL_changes_398 : decode cL_changes 398 = .ok (.goto (-46), 3) := by decide +kernel
theorem dL_changes_401 : decode cL_changes 401 = .ok (.iinc 5 1, 3) := by decide +kernel
theorem dL_changes_404 : decode cL_changes 404 = .ok (.goto (-61), 3) := by decide +kernel
theorem dL_changes_407 : decode cL_changes 407 = .ok (.aload_n 0, 1) := by decide +kernel
theorem dL_changes_408 : decode cL_changes 408 = .ok (.iload_n 3, 1) := by decide +kernel
theorem dL_changes_409 : decode cL_changes 409 = .ok (.invokevirtual 44, 3) := by decide +kernel
theorem dL_changes_412 : decode cL_changes 412 = .ok (.bipush (-5), 2) := by decide +kernel
theorem dL_changes_414 : decode cL_changes 414 = .ok (.if_icmp .ne 49, 3) := by decide +kernel
theorem dL_changes_417 : decode cL_changes 417 = .ok (.aload_n 0, 1) := by decide +kernel
theorem dL_changes_418 : decode cL_changes 418 = .ok (.iconst (-1), 1) := by decide +kernel
theorem dL_changes_419 : decode cL_changes 419 = .ok (.invokevirtual 44, 3) := by decide +kernel
theorem dL_changes_422 : decode cL_changes 422 = .ok (.bipush (-2), 2) := by decide +kernel
theorem dL_changes_424 : decode cL_changes 424 = .ok (.if_icmp .ne 39, 3) := by decide +kernel
theorem dL_changes_427 : decode cL_changes 427 = .ok (.aload_n 0, 1) := by decide +kernel
theorem dL_changes_428 : decode cL_changes 428 = .ok (.iconst 4, 1) := by decide +kernel
theorem dL_changes_429 : decode cL_changes 429 = .ok (.iconst 0, 1) := by decide +kernel
theorem dL_changes_430 : decode cL_changes 430 = .ok (.invokevirtual 51, 3) := by decide +kernel
theorem dL_changes_433 : decode cL_changes 433 = .ok (.iconst (-1), 1) := by decide +kernel
theorem dL_changes_434 : decode cL_changes 434 = .ok (.if_icmp .ne 29, 3) := by decide +kernel
theorem dL_changes_437 : decode cL_changes 437 = .ok (.aload_n 0, 1) := by decide +kernel
theorem dL_changes_438 : decode cL_changes 438 = .ok (.iconst 0, 1) := by decide +kernel
theorem dL_changes_439 : decode cL_changes 439 = .ok (.iconst 4, 1) := by decide +kernel
theorem dL_changes_440 : decode cL_changes 440 = .ok (.invokevirtual 51, 3) := by decide +kernel
theorem dL_changes_443 : decode cL_changes 443 = .ok (.bipush (-2), 2) := by decide +kernel
theorem dL_changes_445 : decode cL_changes 445 = .ok (.if_icmp .ne 18, 3) := by decide +kernel
theorem dL_changes_448 : decode cL_changes 448 = .ok (.aload_n 0, 1) := by decide +kernel
theorem dL_changes_449 : decode cL_changes 449 = .ok (.bipush 11, 2) := by decide +kernel
theorem dL_changes_451 : decode cL_changes 451 = .ok (.invokevirtual 22, 3) := by decide +kernel
theorem dL_changes_454 : decode cL_changes 454 = .ok (.bipush (-2), 2) := by decide +kernel
theorem dL_changes_456 : decode cL_changes 456 = .ok (.if_icmp .ne 7, 3) := by decide +kernel
theorem dL_changes_459 : decode cL_changes 459 = .ok (.iconst 1, 1) := by decide +kernel
theorem dL_changes_460 : decode cL_changes 460 = .ok (.goto 4, 3) := by decide +kernel
theorem dL_changes_463 : decode cL_changes 463 = .ok (.iconst 0, 1) := by decide +kernel
theorem dL_changes_464 : decode cL_changes 464 = .ok (.ireturn, 1) := by decide +kernel
theorem dL_ahead_0 : decode cL_ahead 0 = .ok (.aload_n 0, 1) := by decide +kernel
theorem dL_ahead_1 : decode cL_ahead 1 = .ok (.iload_n 1, 1) := by decide +kernel
theorem dL_ahead_2 : decode cL_ahead 2 = .ok (.iconst 0, 1) := by decide +kernel
theorem dL_ahead_3 : decode cL_ahead 3 = .ok (.invokevirtual 19, 3) := by decide +kernel
theorem dL_ahead_6 : decode cL_ahead 6 = .ok (.iconst 2, 1) := by decide +kernel
theorem dL_ahead_7 : decode cL_ahead 7 = .ok (.idiv, 1) := by decide +kernel
theorem dL_ahead_8 : decode cL_ahead 8 = .ok (.aload_n 0, 1) := by decide +kernel
theorem dL_ahead_9 : decode cL_ahead 9 = .ok (.iload_n 2, 1) := by decide +kernel
theorem dL_ahead_10 : decode cL_ahead 10 = .ok (.iconst 0, 1) := by decide +kernel
theorem dL_ahead_11 : decode cL_ahead 11 = .ok (.invokevirtual 19, 3) := by decide +kernel
theorem dL_ahead_14 : decode cL_ahead 14 = .ok (.iconst 2, 1) := by decide +kernel
theorem dL_ahead_15 : decode cL_ahead 15 = .ok (.idiv, 1) := by decide +kernel
theorem dL_ahead_16 : decode cL_ahead 16 = .ok (.isub, 1) := by decide +kernel
theorem dL_ahead_17 : decode cL_ahead 17 = .ok (.istore_n 3, 1) := by decide +kernel
theorem dL_ahead_18 : decode cL_ahead 18 = .ok (.iload_n 3, 1) := by decide +kernel
theorem dL_ahead_19 : decode cL_ahead 19 = .ok (.ifCond .ne 19, 3) := by decide +kernel
theorem dL_ahead_22 : decode cL_ahead 22 = .ok (.aload_n 0, 1) := by decide +kernel
theorem dL_ahead_23 : decode cL_ahead 23 = .ok (.iload_n 1, 1) := by decide +kernel
theorem dL_ahead_24 : decode cL_ahead 24 = .ok (.iconst 3, 1) := by decide +kernel
theorem dL_ahead_25 : decode cL_ahead 25 = .ok (.invokevirtual 19, 3) := by decide +kernel
theorem dL_ahead_28 : decode cL_ahead 28 = .ok (.aload_n 0, 1) := by decide +kernel
theorem dL_ahead_29 : decode cL_ahead 29 = .ok (.iload_n 2, 1) := by decide +kernel
theorem dL_ahead_30 : decode cL_ahead 30 = .ok (.iconst 3, 1) := by decide +kernel
theorem dL_ahead_31 : decode cL_ahead 31 = .ok (.invokevirtual 19, 3) := by decide +kernel
theorem dL_ahead_34 : decode cL_ahead 34 = .ok (.isub, 1) := by decide +kernel
theorem dL_ahead_35 : decode cL_ahead 35 = .ok (.goto 4, 3) := by decide +kernel
theorem dL_ahead_38 : decode cL_ahead 38 = .ok (.iload_n 3, 1) := by decide +kernel
theorem dL_ahead_39 : decode cL_ahead 39 = .ok (.istore_n 3, 1) := by decide +kernel
theorem dL_ahead_40 : decode cL_ahead 40 = .ok (.iload_n 3, 1) := by decide +kernel
theorem dL_ahead_41 : decode cL_ahead 41 = .ok (.ifCond .ne 19, 3) := by decide +kernel
theorem dL_ahead_44 : decode cL_ahead 44 = .ok (.aload_n 0, 1) := by decide +kernel
theorem dL_ahead_45 : decode cL_ahead 45 = .ok (.iload_n 1, 1) := by decide +kernel
theorem dL_ahead_46 : decode cL_ahead 46 = .ok (.iconst 4, 1) := by decide +kernel
theorem dL_ahead_47 : decode cL_ahead 47 = .ok (.invokevirtual 19, 3) := by decide +kernel
theorem dL_ahead_50 : decode cL_ahead 50 = .ok (.aload_n 0, 1) := by decide +kernel
theorem dL_ahead_51 : decode cL_ahead 51 = .ok (.iload_n 2, 1) := by decide +kernel
theorem dL_ahead_52 : decode cL_ahead 52 = .ok (.iconst 4, 1) := by decide +kernel
theorem dL_ahead_53 : decode cL_ahead 53 = .ok (.invokevirtual 19, 3) := by decide +kernel
theorem dL_ahead_56 : decode cL_ahead 56 = .ok (.isub, 1) := by decide +kernel
theorem dL_ahead_57 : decode cL_ahead 57 = .ok (.goto 4, 3) := by decide +kernel
theorem dL_ahead_60 : decode cL_ahead 60 = .ok (.iload_n 3, 1) := by decide +kernel
theorem dL_ahead_61 : decode cL_ahead 61 = .ok (.istore_n 3, 1) := by decide +kernel
theorem dL_ahead_62 : decode cL_ahead 62 = .ok (.iload_n 3, 1) := by decide +kernel
theorem dL_ahead_63 : decode cL_ahead 63 = .ok (.ifCond .ne 16, 3) := by decide +kernel
theorem dL_ahead_66 : decode cL_ahead 66 = .ok (.iload_n 1, 1) := by decide +kernel
theorem dL_ahead_67 : decode cL_ahead 67 = .ok (.iload_n 2, 1) := by decide +kernel
theorem dL_ahead_68 : decode cL_ahead 68 = .ok (.if_icmp .ge 7, 3) := by decide +kernel
theorem dL_ahead_71 : decode cL_ahead 71 = .ok (.iconst 1, 1) := by decide +kernel
theorem dL_ahead_72 : decode cL_ahead 72 = .ok (.goto 16, 3) := by decide +kernel
theorem dL_ahead_75 : decode cL_ahead 75 = .ok (.iconst 0, 1) := by decide +kernel
theorem dL_ahead_76 : decode cL_ahead 76 = .ok (.goto 12, 3) := by decide +kernel
theorem dL_ahead_79 : decode cL_ahead 79 = .ok (.iload_n 3, 1) := by decide +kernel
theorem dL_ahead_80 : decode cL_ahead 80 = .ok (.ifCond .ge 7, 3) := by decide +kernel
theorem dL_ahead_83 : decode cL_ahead 83 = .ok (.iconst 1, 1) := by decide +kernel
theorem dL_ahead_84 : decode cL_ahead 84 = .ok (.goto 4, 3) := by decide +kernel
theorem dL_ahead_87 : decode cL_ahead 87 = .ok (.iconst 0, 1) := by decide +kernel
theorem dL_ahead_88 : decode cL_ahead 88 = .ok (.ireturn, 1) := by decide +kernel
theorem dL_inserts_0 : decode cL_inserts 0 = .ok (.aload_n 0, 1) := by decide +kernel
theorem dL_inserts_1 : decode cL_inserts 1 = .ok (.iconst 0, 1) := by decide +kernel
theorem dL_inserts_2 : decode cL_inserts 2 = .ok (.iload_n 2, 1) := by decide +kernel
theorem dL_inserts_3 : decode cL_inserts 3 = .ok (.invokevirtual 9, 3) := by decide +kernel
theorem dL_inserts_6 : decode cL_inserts 6 = .ok (.istore 4, 2) := by decide +kernel
theorem dL_inserts_8 : decode cL_inserts 8 = .ok (.iload_n 3, 1) := by decide +kernel
theorem dL_inserts_9 : decode cL_inserts 9 = .ok (.iload 4, 2) := by decide +kernel
theorem dL_inserts_11 : decode cL_inserts 11 = .ok (.iconst 2, 1) := by decide +kernel
theorem dL_inserts_12 : decode cL_inserts 12 = .ok (.iadd, 1) := by decide +kernel
theorem dL_inserts_13 : decode cL_inserts 13 = .ok (.invokestatic 54, 3) := by decide +kernel
theorem dL_inserts_16 : decode cL_inserts 16 = .ok (.istore 5, 2) := by decide +kernel
theorem dL_inserts_18 : decode cL_inserts 18 = .ok (.aload_n 0, 1) := by decide +kernel
theorem dL_inserts_19 : decode cL_inserts 19 = .ok (.iconst 0, 1) := by decide +kernel
theorem dL_inserts_20 : decode cL_inserts 20 = .ok (.invokevirtual 22, 3) := by decide +kernel
theorem dL_inserts_23 : decode cL_inserts 23 = .ok (.istore 6, 2) := by decide +kernel
theorem dL_inserts_25 : decode cL_inserts 25 = .ok (.aload_n 0, 1) := by decide +kernel
theorem dL_inserts_26 : decode cL_inserts 26 = .ok (.iconst 5, 1) := by decide +kernel
theorem dL_inserts_27 : decode cL_inserts 27 = .ok (.invokevirtual 22, 3) := by decide +kernel
theorem dL_inserts_30 : decode cL_inserts 30 = .ok (.iconst 1, 1) := by decide +kernel
theorem dL_inserts_31 : decode cL_inserts 31 = .ok (.if_icmp .ne 7, 3) := by decide +kernel
theorem dL_inserts_34 : decode cL_inserts 34 = .ok (.iconst 1, 1) := by decide +kernel
theorem dL_inserts_35 : decode cL_inserts 35 = .ok (.goto 4, 3) := by decide +kernel
theorem dL_inserts_38 : decode cL_inserts 38 = .ok (.iconst 0, 1) := by decide +kernel
theorem dL_inserts_39 : decode cL_inserts 39 = .ok (.istore 7, 2) := by decide +kernel
theorem dL_inserts_41 : decode cL_inserts 41 = .ok (.iload 4, 2) := by decide +kernel
theorem dL_inserts_43 : decode cL_inserts 43 = .ok (.iload_n 2, 1) := by decide +kernel
theorem dL_inserts_44 : decode cL_inserts 44 = .ok (.ifCond .ne 8, 3) := by decide +kernel
theorem dL_inserts_47 : decode cL_inserts 47 = .ok (.bipush 12, 2) := by decide +kernel
theorem dL_inserts_49 : decode cL_inserts 49 = .ok (.goto 5, 3) := by decide +kernel
theorem dL_inserts_52 : decode cL_inserts 52 = .ok (.bipush 8, 2) := by decide +kernel
theorem dL_inserts_54 : decode cL_inserts 54 = .ok (.if_icmp .eq 15, 3) := by decide +kernel
theorem dL_inserts_57 : decode cL_inserts 57 = .ok (.iload 7, 2) := by decide +kernel
theorem dL_inserts_59 : decode cL_inserts 59 = .ok (.ifCond .eq 14, 3) := by decide +kernel
theorem dL_inserts_62 : decode cL_inserts 62 = .ok (.iload 6, 2) := by decide +kernel
theorem dL_inserts_64 : decode cL_inserts 64 = .ok (.bipush 60, 2) := by decide +kernel
theorem dL_inserts_66 : decode cL_inserts 66 = .ok (.if_icmp .ne 7, 3) := by decide +kernel
theorem dL_inserts_69 : decode cL_inserts 69 = .ok (.iconst 1, 1) := by decide +kernel
theorem dL_inserts_70 : decode cL_inserts 70 = .ok (.goto 4, 3) := by decide +kernel
theorem dL_inserts_73 : decode cL_inserts 73 = .ok (.iconst 0, 1) := by decide +kernel
theorem dL_inserts_74 : decode cL_inserts 74 = .ok (.istore 8, 2) := by decide +kernel
theorem dL_inserts_76 : decode cL_inserts 76 = .ok (.iload 5, 2) := by decide +kernel
theorem dL_inserts_78 : decode cL_inserts 78 = .ok (.iload 4, 2) := by decide +kernel
theorem dL_inserts_80 : decode cL_inserts 80 = .ok (.if_icmp .le 8, 3) := by decide +kernel
theorem dL_inserts_83 : decode cL_inserts 83 = .ok (.bipush (-2), 2) := by decide +kernel
theorem dL_inserts_85 : decode cL_inserts 85 = .ok (.goto 26, 3) := by decide +kernel
theorem dL_inserts_88 : decode cL_inserts 88 = .ok (.iload 8, 2) := by decide +kernel
theorem dL_inserts_90 : decode cL_inserts 90 = .ok (.ifCond .eq 8, 3) := by decide +kernel
theorem dL_inserts_93 : decode cL_inserts 93 = .ok (.bipush (-3), 2) := by decide +kernel
theorem dL_inserts_95 : decode cL_inserts 95 = .ok (.goto 16, 3) := by decide +kernel
theorem dL_inserts_98 : decode cL_inserts 98 = .ok (.iload 7, 2) := by decide +kernel
theorem dL_inserts_100 : decode cL_inserts 100 = .ok (.ifCond .eq 8, 3) := by decide +kernel
theorem dL_inserts_103 : decode cL_inserts 103 = .ok (.iload 6, 2) := by decide +kernel
theorem dL_inserts_105 : decode cL_inserts 105 = .ok (.goto 6, 3) := by decide +kernel
theorem dL_inserts_108 : decode cL_inserts 108 = .ok (.sipush 1000, 3) := by decide +kernel
theorem dL_inserts_111 : decode cL_inserts 111 = .ok (.istore 9, 2) := by decide +kernel
theorem dL_inserts_113 : decode cL_inserts 113 = .ok (.aload_n 0, 1) := by decide +kernel
theorem dL_inserts_114 : decode cL_inserts 114 = .ok (.iconst 0, 1) := by decide +kernel
theorem dL_inserts_115 : decode cL_inserts 115 = .ok (.invokevirtual 32, 3) := by decide +kernel
theorem dL_inserts_118 : decode cL_inserts 118 = .ok (.istore 10, 2) := by decide +kernel
theorem dL_inserts_120 : decode cL_inserts 120 = .ok (.aload_n 0, 1) := by decide +kernel
theorem dL_inserts_121 : decode cL_inserts 121 = .ok (.iload_n 1, 1) := by decide +kernel
theorem dL_inserts_122 : decode cL_inserts 122 = .ok (.iload_n 2, 1) := by decide +kernel
theorem dL_inserts_123 : decode cL_inserts 123 = .ok (.iload 5, 2) := by decide +kernel
theorem dL_inserts_125 : decode cL_inserts 125 = .ok (.invokevirtual 57, 3) := by decide +kernel
theorem dL_inserts_128 : decode cL_inserts 128 = .ok (.iload 9, 2) := by decide +kernel
theorem dL_inserts_130 : decode cL_inserts 130 = .ok (.if_icmp .ne 13, 3) := by decide +kernel
theorem dL_inserts_133 : decode cL_inserts 133 = .ok (.aload_n 0, 1) := by decide +kernel
theorem dL_inserts_134 : decode cL_inserts 134 = .ok (.iconst 0, 1) := by decide +kernel
theorem dL_inserts_135 : decode cL_inserts 135 = .ok (.invokevirtual 32, 3) := by decide +kernel
theorem dL_inserts_138 : decode cL_inserts 138 = .ok (.iload 10, 2) := by decide +kernel
theorem dL_inserts_140 : decode cL_inserts 140 = .ok (.if_icmp .eq 5, 3) := by decide +kernel
theorem dL_inserts_143 : decode cL_inserts 143 = .ok (.iconst 0, 1) := by decide +kernel
theorem dL_inserts_144 : decode cL_inserts 144 = .ok (.ireturn, 1) := by decide +kernel
theorem dL_inserts_145 : decode cL_inserts 145 = .ok (.iload 9, 2) := by decide +kernel
theorem dL_inserts_147 : decode cL_inserts 147 = .ok (.ifCond .ge 22, 3) := by decide +kernel
theorem dL_inserts_150 : decode cL_inserts 150 = .ok (.aload_n 0, 1) := by decide +kernel
theorem dL_inserts_151 : decode cL_inserts 151 = .ok (.iconst 0, 1) := by decide +kernel
theorem dL_inserts_152 : decode cL_inserts 152 = .ok (.iload_n 2, 1) := by decide +kernel
theorem dL_inserts_153 : decode cL_inserts 153 = .ok (.invokevirtual 9, 3) := by decide +kernel
theorem dL_inserts_156 : decode cL_inserts 156 = .ok (.iload 4, 2) := by decide +kernel
theorem dL_inserts_158 : decode cL_inserts 158 = .ok (.if_icmp .ne 7, 3) := by decide +kernel
theorem dL_inserts_161 : decode cL_inserts 161 = .ok (.iconst 1, 1) := by decide +kernel
theorem dL_inserts_162 : decode cL_inserts 162 = .ok (.goto 59, 3) := by decide +kernel
theorem dL_inserts_165 : decode cL_inserts 165 = .ok (.iconst 0, 1) := by decide +kernel
theorem dL_inserts_166 : decode cL_inserts 166 = .ok (.goto 55, 3) := by decide +kernel
theorem dL_inserts_169 : decode cL_inserts 169 = .ok (.aload_n 0, 1) := by decide +kernel
theorem dL_inserts_170 : decode cL_inserts 170 = .ok (.iconst 0, 1) := by decide +kernel
theorem dL_inserts_171 : decode cL_inserts 171 = .ok (.iload_n 2, 1) := by decide +kernel
theorem dL_inserts_172 : decode cL_inserts 172 = .ok (.invokevirtual 9, 3) := by decide +kernel
theorem dL_inserts_175 : decode cL_inserts 175 = .ok (.iload 4, 2) := by decide +kernel
theorem dL_inserts_177 : decode cL_inserts 177 = .ok (.iconst 1, 1) := by decide +kernel
theorem dL_inserts_178 : decode cL_inserts 178 = .ok (.iadd, 1) := by decide +kernel
theorem dL_inserts_179 : decode cL_inserts 179 = .ok (.if_icmp .ne 41, 3) := by decide +kernel
theorem dL_inserts_182 : decode cL_inserts 182 = .ok (.aload_n 0, 1) := by decide +kernel
theorem dL_inserts_183 : decode cL_inserts 183 = .ok (.iload_n 2, 1) := by decide +kernel
theorem dL_inserts_184 : decode cL_inserts 184 = .ok (.iload 5, 2) := by decide +kernel
theorem dL_inserts_186 : decode cL_inserts 186 = .ok (.iconst 0, 1) := by decide +kernel
theorem dL_inserts_187 : decode cL_inserts 187 = .ok (.invokevirtual 15, 3) := by decide +kernel
theorem dL_inserts_190 : decode cL_inserts 190 = .ok (.iload 7, 2) := by decide +kernel
theorem dL_inserts_192 : decode cL_inserts 192 = .ok (.ifCond .eq 8, 3) := by decide +kernel
theorem dL_inserts_195 : decode cL_inserts 195 = .ok (.iload 6, 2) := by decide +kernel
theorem dL_inserts_197 : decode cL_inserts 197 = .ok (.goto 5, 3) := by decide +kernel
theorem dL_inserts_200 : decode cL_inserts 200 = .ok (.bipush (-5), 2) := by decide +kernel
theorem dL_inserts_202 : decode cL_inserts 202 = .ok (.if_icmp .ne 18, 3) := by decide +kernel
theorem dL_inserts_205 : decode cL_inserts 205 = .ok (.aload_n 0, 1) := by decide +kernel
theorem dL_inserts_206 : decode cL_inserts 206 = .ok (.iload_n 2, 1) := by decide +kernel
theorem dL_inserts_207 : decode cL_inserts 207 = .ok (.iload 5, 2) := by decide +kernel
theorem dL_inserts_209 : decode cL_inserts 209 = .ok (.iconst 4, 1) := by decide +kernel
theorem dL_inserts_210 : decode cL_inserts 210 = .ok (.invokevirtual 15, 3) := by decide +kernel
theorem dL_inserts_213 : decode cL_inserts 213 = .ok (.ifCond .ne 7, 3) := by decide +kernel
theorem dL_inserts_216 : decode cL_inserts 216 = .ok (.iconst 1, 1) := by decide +kernel
theorem dL_inserts_217 : decode cL_inserts 217 = .ok (.goto 4, 3) := by decide +kernel
theorem dL_inserts_220 : decode cL_inserts 220 = .ok (.iconst 0, 1) := by decide +kernel
theorem dL_inserts_221 : decode cL_inserts 221 = .ok (.ireturn, 1) := by decide +kernel
theorem dL_removes_0 : decode cL_removes 0 = .ok (.aload_n 0, 1) := by decide +kernel
theorem dL_removes_1 : decode cL_removes 1 = .ok (.iconst 0, 1) := by decide +kernel
theorem dL_removes_2 : decode cL_removes 2 = .ok (.iload_n 2, 1) := by decide +kernel
theorem dL_removes_3 : decode cL_removes 3 = .ok (.invokevirtual 9, 3) := by decide +kernel
theorem dL_removes_6 : decode cL_removes 6 = .ok (.istore 4, 2) := by decide +kernel
theorem dL_removes_8 : decode cL_removes 8 = .ok (.iload 4, 2) := by decide +kernel
theorem dL_removes_10 : decode cL_removes 10 = .ok (.ifCond .ne 20, 3) := by decide +kernel
theorem dL_removes_13 : decode cL_removes 13 = .ok (.aload_n 0, 1) := by decide +kernel
theorem dL_removes_14 : decode cL_removes 14 = .ok (.iload_n 1, 1) := by decide +kernel
theorem dL_removes_15 : decode cL_removes 15 = .ok (.iload_n 2, 1) := by decide +kernel
theorem dL_removes_16 : decode cL_removes 16 = .ok (.iconst 0, 1) := by decide +kernel
theorem dL_removes_17 : decode cL_removes 17 = .ok (.invokevirtual 60, 3) := by decide +kernel
theorem dL_removes_20 : decode cL_removes 20 = .ok (.iconst (-1), 1) := by decide +kernel
theorem dL_removes_21 : decode cL_removes 21 = .ok (.if_icmp .ne 7, 3) := by decide +kernel
theorem dL_removes_24 : decode cL_removes 24 = .ok (.iconst 1, 1) := by decide +kernel
theorem dL_removes_25 : decode cL_removes 25 = .ok (.goto 4, 3) := by decide +kernel
theorem dL_removes_28 : decode cL_removes 28 = .ok (.iconst 0, 1) := by decide +kernel
theorem dL_removes_29 : decode cL_removes 29 = .ok (.ireturn, 1) := by decide +kernel
theorem dL_removes_30 : decode cL_removes 30 = .ok (.iload_n 3, 1) := by decide +kernel
theorem dL_removes_31 : decode cL_removes 31 = .ok (.iload 4, 2) := by decide +kernel
theorem dL_removes_33 : decode cL_removes 33 = .ok (.invokestatic 54, 3) := by decide +kernel
theorem dL_removes_36 : decode cL_removes 36 = .ok (.istore 5, 2) := by decide +kernel
theorem dL_removes_38 : decode cL_removes 38 = .ok (.aload_n 0, 1) := by decide +kernel
theorem dL_removes_39 : decode cL_removes 39 = .ok (.iconst 0, 1) := by decide +kernel
theorem dL_removes_40 : decode cL_removes 40 = .ok (.invokevirtual 22, 3) := by decide +kernel
theorem dL_removes_43 : decode cL_removes 43 = .ok (.istore 6, 2) := by decide +kernel
theorem dL_removes_45 : decode cL_removes 45 = .ok (.aload_n 0, 1) := by decide +kernel
theorem dL_removes_46 : decode cL_removes 46 = .ok (.iconst 5, 1) := by decide +kernel
theorem dL_removes_47 : decode cL_removes 47 = .ok (.invokevirtual 22, 3) := by decide +kernel
theorem dL_removes_50 : decode cL_removes 50 = .ok (.iconst 1, 1) := by decide +kernel
theorem dL_removes_51 : decode cL_removes 51 = .ok (.if_icmp .ne 7, 3) := by decide +kernel
theorem dL_removes_54 : decode cL_removes 54 = .ok (.iconst 1, 1) := by decide +kernel
theorem dL_removes_55 : decode cL_removes 55 = .ok (.goto 4, 3) := by decide +kernel
theorem dL_removes_58 : decode cL_removes 58 = .ok (.iconst 0, 1) := by decide +kernel
theorem dL_removes_59 : decode cL_removes 59 = .ok (.istore 7, 2) := by decide +kernel
theorem dL_removes_61 : decode cL_removes 61 = .ok (.aload_n 0, 1) := by decide +kernel
theorem dL_removes_62 : decode cL_removes 62 = .ok (.iload_n 2, 1) := by decide +kernel
theorem dL_removes_63 : decode cL_removes 63 = .ok (.iload 5, 2) := by decide +kernel
theorem dL_removes_65 : decode cL_removes 65 = .ok (.iconst 0, 1) := by decide +kernel
theorem dL_removes_66 : decode cL_removes 66 = .ok (.invokevirtual 15, 3) := by decide +kernel
theorem dL_removes_69 : decode cL_removes 69 = .ok (.istore 8, 2) := by decide +kernel
theorem dL_removes_71 : decode cL_removes 71 = .ok (.aload_n 0, 1) := by decide +kernel
theorem dL_removes_72 : decode cL_removes 72 = .ok (.iload_n 2, 1) := by decide +kernel
theorem dL_removes_73 : decode cL_removes 73 = .ok (.iload 5, 2) := by decide +kernel
theorem dL_removes_75 : decode cL_removes 75 = .ok (.iconst 1, 1) := by decide +kernel
theorem dL_removes_76 : decode cL_removes 76 = .ok (.invokevirtual 15, 3) := by decide +kernel
theorem dL_removes_79 : decode cL_removes 79 = .ok (.ifCond .lt 7, 3) := by decide +kernel
theorem dL_removes_82 : decode cL_removes 82 = .ok (.iconst 1, 1) := by decide +kernel
theorem dL_removes_83 : decode cL_removes 83 = .ok (.goto 4, 3) := by decide +kernel
theorem dL_removes_86 : decode cL_removes 86 = .ok (.iconst 0, 1) := by decide +kernel
theorem dL_removes_87 : decode cL_removes 87 = .ok (.istore 9, 2) := by decide +kernel
theorem dL_removes_89 : decode cL_removes 89 = .ok (.iload 8, 2) := by decide +kernel
theorem dL_removes_91 : decode cL_removes 91 = .ok (.ifCond .lt 18, 3) := by decide +kernel
theorem dL_removes_94 : decode cL_removes 94 = .ok (.aload_n 0, 1) := by decide +kernel
theorem dL_removes_95 : decode cL_removes 95 = .ok (.iload 8, 2) := by decide +kernel
theorem dL_removes_97 : decode cL_removes 97 = .ok (.iconst 1, 1) := by decide +kernel
theorem dL_removes_98 : decode cL_removes 98 = .ok (.invokevirtual 19, 3) := by decide +kernel
theorem dL_removes_101 : decode cL_removes 101 = .ok (.iload_n 1, 1) := by decide +kernel
theorem dL_removes_102 : decode cL_removes 102 = .ok (.if_icmp .ne 7, 3) := by decide +kernel
theorem dL_removes_105 : decode cL_removes 105 = .ok (.iconst 1, 1) := by decide +kernel
theorem dL_removes_106 : decode cL_removes 106 = .ok (.goto 4, 3) := by decide +kernel
theorem dL_removes_109 : decode cL_removes 109 = .ok (.iconst 0, 1) := by decide +kernel
theorem dL_removes_110 : decode cL_removes 110 = .ok (.istore 10, 2) := by decide +kernel
theorem dL_removes_112 : decode cL_removes 112 = .ok (.iload 7, 2) := by decide +kernel
theorem dL_removes_114 : decode cL_removes 114 = .ok (.ifCond .ne 9, 3) := by decide +kernel
theorem dL_removes_117 : decode cL_removes 117 = .ok (.sipush 1000, 3) := by decide +kernel
theorem dL_removes_120 : decode cL_removes 120 = .ok (.goto 37, 3) := by decide +kernel
theorem dL_removes_123 : decode cL_removes 123 = .ok (.iload 9, 2) := by decide +kernel
theorem dL_removes_125 : decode cL_removes 125 = .ok (.ifCond .eq 8, 3) := by decide +kernel
theorem dL_removes_128 : decode cL_removes 128 = .ok (.bipush (-4), 2) := by decide +kernel
theorem dL_removes_130 : decode cL_removes 130 = .ok (.goto 27, 3) := by decide +kernel
theorem dL_removes_133 : decode cL_removes 133 = .ok (.iload 10, 2) := by decide +kernel
theorem dL_removes_135 : decode cL_removes 135 = .ok (.ifCond .eq 8, 3) := by decide +kernel
theorem dL_removes_138 : decode cL_removes 138 = .ok (.iload 8, 2) := by decide +kernel
theorem dL_removes_140 : decode cL_removes 140 = .ok (.goto 17, 3) := by decide +kernel
theorem dL_removes_143 : decode cL_removes 143 = .ok (.iload 6, 2) := by decide +kernel
theorem dL_removes_145 : decode cL_removes 145 = .ok (.bipush 60, 2) := by decide +kernel
theorem dL_removes_147 : decode cL_removes 147 = .ok (.if_icmp .ne 8, 3) := by decide +kernel
theorem dL_removes_150 : decode cL_removes 150 = .ok (.bipush (-3), 2) := by decide +kernel
theorem dL_removes_152 : decode cL_removes 152 = .ok (.goto 5, 3) := by decide +kernel
theorem dL_removes_155 : decode cL_removes 155 = .ok (.iload 6, 2) := by decide +kernel
theorem dL_removes_157 : decode cL_removes 157 = .ok (.istore 11, 2) := by decide +kernel
theorem dL_removes_159 : decode cL_removes 159 = .ok (.aload_n 0, 1) := by decide +kernel
theorem dL_removes_160 : decode cL_removes 160 = .ok (.iconst 4, 1) := by decide +kernel
theorem dL_removes_161 : decode cL_removes 161 = .ok (.invokevirtual 22, 3) := by decide +kernel
theorem dL_removes_164 : decode cL_removes 164 = .ok (.aload_n 0, 1) := by decide +kernel
theorem dL_removes_165 : decode cL_removes 165 = .ok (.iload_n 2, 1) := by decide +kernel
theorem dL_removes_166 : decode cL_removes 166 = .ok (.iload 5, 2) := by decide +kernel
theorem dL_removes_168 : decode cL_removes 168 = .ok (.iconst 4, 1) := by decide +kernel
theorem dL_removes_169 : decode cL_removes 169 = .ok (.invokevirtual 15, 3) := by decide +kernel
theorem dL_removes_172 : decode cL_removes 172 = .ok (.iadd, 1) := by decide +kernel
theorem dL_removes_173 : decode cL_removes 173 = .ok (.iload 8, 2) := by decide +kernel
theorem dL_removes_175 : decode cL_removes 175 = .ok (.ifCond .lt 7, 3) := by decide +kernel
theorem dL_removes_178 : decode cL_removes 178 = .ok (.iconst 1, 1) := by decide +kernel
theorem dL_removes_179 : decode cL_removes 179 = .ok (.goto 4, 3) := by decide +kernel
theorem dL_removes_182 : decode cL_removes 182 = .ok (.iconst 0, 1) := by decide +kernel
theorem dL_removes_183 : decode cL_removes 183 = .ok (.iadd, 1) := by decide +kernel
theorem dL_removes_184 : decode cL_removes 184 = .ok (.iload 9, 2) := by decide +kernel
theorem dL_removes_186 : decode cL_removes 186 = .ok (.ifCond .eq 7, 3) := by decide +kernel
theorem dL_removes_189 : decode cL_removes 189 = .ok (.iconst 1, 1) := by decide +kernel
theorem dL_removes_190 : decode cL_removes 190 = .ok (.goto 4, 3) := by decide +kernel
theorem dL_removes_193 : decode cL_removes 193 = .ok (.iconst 0, 1) := by decide +kernel
theorem dL_removes_194 : decode cL_removes 194 = .ok (.iadd, 1) := by decide +kernel
theorem dL_removes_195 : decode cL_removes 195 = .ok (.istore 12, 2) := by decide +kernel
theorem dL_removes_197 : decode cL_removes 197 = .ok (.aload_n 0, 1) := by decide +kernel
theorem dL_removes_198 : decode cL_removes 198 = .ok (.iload_n 1, 1) := by decide +kernel
theorem dL_removes_199 : decode cL_removes 199 = .ok (.iload_n 2, 1) := by decide +kernel
theorem dL_removes_200 : decode cL_removes 200 = .ok (.iload 5, 2) := by decide +kernel
theorem dL_removes_202 : decode cL_removes 202 = .ok (.invokevirtual 60, 3) := by decide +kernel
theorem dL_removes_205 : decode cL_removes 205 = .ok (.iload 11, 2) := by decide +kernel
theorem dL_removes_207 : decode cL_removes 207 = .ok (.if_icmp .eq 5, 3) := by decide +kernel
theorem dL_removes_210 : decode cL_removes 210 = .ok (.iconst 0, 1) := by decide +kernel
theorem dL_removes_211 : decode cL_removes 211 = .ok (.ireturn, 1) := by decide +kernel
theorem dL_removes_212 : decode cL_removes 212 = .ok (.iload 11, 2) := by decide +kernel
theorem dL_removes_214 : decode cL_removes 214 = .ok (.ifCond .ge 20, 3) := by decide +kernel
theorem dL_removes_217 : decode cL_removes 217 = .ok (.aload_n 0, 1) := by decide +kernel
theorem dL_removes_218 : decode cL_removes 218 = .ok (.iconst 0, 1) := by decide +kernel
theorem dL_removes_219 : decode cL_removes 219 = .ok (.iload_n 2, 1) := by decide +kernel
theorem dL_removes_220 : decode cL_removes 220 = .ok (.invokevirtual 9, 3) := by decide +kernel
theorem dL_removes_223 : decode cL_removes 223 = .ok (.iload 4, 2) := by decide +kernel
theorem dL_removes_225 : decode cL_removes 225 = .ok (.if_icmp .ne 7, 3) := by decide +kernel
theorem dL_removes_228 : decode cL_removes 228 = .ok (.iconst 1, 1) := by decide +kernel
theorem dL_removes_229 : decode cL_removes 229 = .ok (.goto 4, 3) := by decide +kernel
theorem dL_removes_232 : decode cL_removes 232 = .ok (.iconst 0, 1) := by decide +kernel
theorem dL_removes_233 : decode cL_removes 233 = .ok (.ireturn, 1) := by decide +kernel
theorem dL_removes_234 : decode cL_removes 234 = .ok (.iload 7, 2) := by decide +kernel
theorem dL_removes_236 : decode cL_removes 236 = .ok (.ifCond .eq 8, 3) := by decide +kernel
theorem dL_removes_239 : decode cL_removes 239 = .ok (.iload 10, 2) := by decide +kernel
theorem dL_removes_241 : decode cL_removes 241 = .ok (.ifCond .eq 7, 3) := by decide +kernel
theorem dL_removes_244 : decode cL_removes 244 = .ok (.iconst 1, 1) := by decide +kernel
theorem dL_removes_245 : decode cL_removes 245 = .ok (.goto 4, 3) := by decide +kernel
theorem dL_removes_248 : decode cL_removes 248 = .ok (.iconst 0, 1) := by decide +kernel
theorem dL_removes_249 : decode cL_removes 249 = .ok (.istore 13, 2) := by decide +kernel
theorem dL_removes_251 : decode cL_removes 251 = .ok (.aload_n 0, 1) := by decide +kernel
theorem dL_removes_252 : decode cL_removes 252 = .ok (.iconst 0, 1) := by decide +kernel
theorem dL_removes_253 : decode cL_removes 253 = .ok (.iload_n 2, 1) := by decide +kernel
theorem dL_removes_254 : decode cL_removes 254 = .ok (.invokevirtual 9, 3) := by decide +kernel
theorem dL_removes_257 : decode cL_removes 257 = .ok (.iload 13, 2) := by decide +kernel
theorem dL_removes_259 : decode cL_removes 259 = .ok (.ifCond .eq 10, 3) := by decide +kernel
theorem dL_removes_262 : decode cL_removes 262 = .ok (.iload 4, 2) := by decide +kernel
theorem dL_removes_264 : decode cL_removes 264 = .ok (.iconst 1, 1) := by decide +kernel
theorem dL_removes_265 : decode cL_removes 265 = .ok (.isub, 1) := by decide +kernel
theorem dL_removes_266 : decode cL_removes 266 = .ok (.goto 5, 3) := by decide +kernel
theorem dL_removes_269 : decode cL_removes 269 = .ok (.iload 4, 2) := by decide +kernel
theorem dL_removes_271 : decode cL_removes 271 = .ok (.if_icmp .ne 38, 3) := by decide +kernel
theorem dL_removes_274 : decode cL_removes 274 = .ok (.iload 13, 2) := by decide +kernel
theorem dL_removes_276 : decode cL_removes 276 = .ok (.ifCond .eq 16, 3) := by decide +kernel
theorem dL_removes_279 : decode cL_removes 279 = .ok (.aload_n 0, 1) := by decide +kernel
theorem dL_removes_280 : decode cL_removes 280 = .ok (.iconst 4, 1) := by decide +kernel
theorem dL_removes_281 : decode cL_removes 281 = .ok (.invokevirtual 22, 3) := by decide +kernel
theorem dL_removes_284 : decode cL_removes 284 = .ok (.iload 12, 2) := by decide +kernel
theorem dL_removes_286 : decode cL_removes 286 = .ok (.if_icmp .ne 23, 3) := by decide +kernel
theorem dL_removes_289 : decode cL_removes 289 = .ok (.goto 16, 3) := by decide +kernel
theorem dL_removes_292 : decode cL_removes 292 = .ok (.aload_n 0, 1) := by decide +kernel
theorem dL_removes_293 : decode cL_removes 293 = .ok (.iload_n 2, 1) := by decide +kernel
theorem dL_removes_294 : decode cL_removes 294 = .ok (.iload 5, 2) := by decide +kernel
theorem dL_removes_296 : decode cL_removes 296 = .ok (.iconst 1, 1) := by decide +kernel
theorem dL_removes_297 : decode cL_removes 297 = .ok (.invokevirtual 15, 3) := by decide +kernel
theorem dL_removes_300 : decode cL_removes 300 = .ok (.iload 6, 2) := by decide +kernel
theorem dL_removes_302 : decode cL_removes 302 = .ok (.if_icmp .ne 7, 3) := by decide +kernel
theorem dL_removes_305 : decode cL_removes 305 = .ok (.iconst 1, 1) := by decide +kernel
theorem dL_removes_306 : decode cL_removes 306 = .ok (.goto 4, 3) := by decide +kernel
theorem dL_removes_309 : decode cL_removes 309 = .ok (.iconst 0, 1) := by decide +kernel
theorem dL_removes_310 : decode cL_removes 310 = .ok (.ireturn, 1) := by decide +kernel
theorem dL_sets_0 : decode cL_sets 0 = .ok (.aload_n 0, 1) := by decide +kernel
theorem dL_sets_1 : decode cL_sets 1 = .ok (.iconst 0, 1) := by decide +kernel
theorem dL_sets_2 : decode cL_sets 2 = .ok (.iconst 0, 1) := by decide +kernel
theorem dL_sets_3 : decode cL_sets 3 = .ok (.invokevirtual 9, 3) := by decide +kernel
theorem dL_sets_6 : decode cL_sets 6 = .ok (.istore 4, 2) := by decide +kernel
theorem dL_sets_8 : decode cL_sets 8 = .ok (.aload_n 0, 1) := by decide +kernel
theorem dL_sets_9 : decode cL_sets 9 = .ok (.iconst 0, 1) := by decide +kernel
theorem dL_sets_10 : decode cL_sets 10 = .ok (.iconst 1, 1) := by decide +kernel
theorem dL_sets_11 : decode cL_sets 11 = .ok (.invokevirtual 9, 3) := by decide +kernel
theorem dL_sets_14 : decode cL_sets 14 = .ok (.istore 5, 2) := by decide +kernel
theorem dL_sets_16 : decode cL_sets 16 = .ok (.iload 4, 2) := by decide +kernel
theorem dL_sets_18 : decode cL_sets 18 = .ok (.ifCond .eq 8, 3) := by decide +kernel
theorem dL_sets_21 : decode cL_sets 21 = .ok (.iload 5, 2) := by decide +kernel
theorem dL_sets_23 : decode cL_sets 23 = .ok (.ifCond .ne 21, 3) := by decide +kernel
theorem dL_sets_26 : decode cL_sets 26 = .ok (.aload_n 0, 1) := by decide +kernel
theorem dL_sets_27 : decode cL_sets 27 = .ok (.iload_n 1, 1) := by decide +kernel
theorem dL_sets_28 : decode cL_sets 28 = .ok (.iconst 0, 1) := by decide +kernel
theorem dL_sets_29 : decode cL_sets 29 = .ok (.iconst 0, 1) := by decide +kernel
theorem dL_sets_30 : decode cL_sets 30 = .ok (.iconst 1, 1) := by decide +kernel
theorem dL_sets_31 : decode cL_sets 31 = .ok (.invokevirtual 63, 3) := by decide +kernel
theorem dL_sets_34 : decode cL_sets 34 = .ok (.iconst (-1), 1) := by decide +kernel
theorem dL_sets_35 : decode cL_sets 35 = .ok (.if_icmp .ne 7, 3) := by decide +kernel
theorem dL_sets_38 : decode cL_sets 38 = .ok (.iconst 1, 1) := by decide +kernel
theorem dL_sets_39 : decode cL_sets 39 = .ok (.goto 4, 3) := by decide +kernel
theorem dL_sets_42 : decode cL_sets 42 = .ok (.iconst 0, 1) := by decide +kernel
theorem dL_sets_43 : decode cL_sets 43 = .ok (.ireturn, 1) := by decide +kernel
theorem dL_sets_44 : decode cL_sets 44 = .ok (.iload_n 2, 1) := by decide +kernel
theorem dL_sets_45 : decode cL_sets 45 = .ok (.iload 4, 2) := by decide +kernel
theorem dL_sets_47 : decode cL_sets 47 = .ok (.invokestatic 54, 3) := by decide +kernel
theorem dL_sets_50 : decode cL_sets 50 = .ok (.istore 6, 2) := by decide +kernel
theorem dL_sets_52 : decode cL_sets 52 = .ok (.iload_n 2, 1) := by decide +kernel
theorem dL_sets_53 : decode cL_sets 53 = .ok (.iconst 4, 1) := by decide +kernel
theorem dL_sets_54 : decode cL_sets 54 = .ok (.ishr, 1) := by decide +kernel
theorem dL_sets_55 : decode cL_sets 55 = .ok (.iload 5, 2) := by decide +kernel
theorem dL_sets_57 : decode cL_sets 57 = .ok (.invokestatic 54, 3) := by decide +kernel
theorem dL_sets_60 : decode cL_sets 60 = .ok (.istore 7, 2) := by decide +kernel
theorem dL_sets_62 : decode cL_sets 62 = .ok (.iload_n 3, 1) := by decide +kernel
theorem dL_sets_63 : decode cL_sets 63 = .ok (.iconst 5, 1) := by decide +kernel
theorem dL_sets_64 : decode cL_sets 64 = .ok (.invokestatic 54, 3) := by decide +kernel
theorem dL_sets_67 : decode cL_sets 67 = .ok (.istore 8, 2) := by decide +kernel
theorem dL_sets_69 : decode cL_sets 69 = .ok (.aload_n 0, 1) := by decide +kernel
theorem dL_sets_70 : decode cL_sets 70 = .ok (.iconst 0, 1) := by decide +kernel
theorem dL_sets_71 : decode cL_sets 71 = .ok (.invokevirtual 22, 3) := by decide +kernel
theorem dL_sets_74 : decode cL_sets 74 = .ok (.istore 9, 2) := by decide +kernel
theorem dL_sets_76 : decode cL_sets 76 = .ok (.aload_n 0, 1) := by decide +kernel
theorem dL_sets_77 : decode cL_sets 77 = .ok (.iconst 5, 1) := by decide +kernel
theorem dL_sets_78 : decode cL_sets 78 = .ok (.invokevirtual 22, 3) := by decide +kernel
theorem dL_sets_81 : decode cL_sets 81 = .ok (.iconst 1, 1) := by decide +kernel
theorem dL_sets_82 : decode cL_sets 82 = .ok (.if_icmp .ne 7, 3) := by decide +kernel
theorem dL_sets_85 : decode cL_sets 85 = .ok (.iconst 1, 1) := by decide +kernel
theorem dL_sets_86 : decode cL_sets 86 = .ok (.goto 4, 3) := by decide +kernel
theorem dL_sets_89 : decode cL_sets 89 = .ok (.iconst 0, 1) := by decide +kernel
theorem dL_sets_90 : decode cL_sets 90 = .ok (.istore 10, 2) := by decide +kernel
theorem dL_sets_92 : decode cL_sets 92 = .ok (.iconst 0, 1) := by decide +kernel
theorem dL_sets_93 : decode cL_sets 93 = .ok (.istore 11, 2) := by decide +kernel
theorem dL_sets_95 : decode cL_sets 95 = .ok (.aload_n 0, 1) := by decide +kernel
theorem dL_sets_96 : decode cL_sets 96 = .ok (.iload 6, 2) := by decide +kernel
theorem dL_sets_98 : decode cL_sets 98 = .ok (.iload 7, 2) := by decide +kernel
theorem dL_sets_100 : decode cL_sets 100 = .ok (.iload 11, 2) := by decide +kernel
theorem dL_sets_102 : decode cL_sets 102 = .ok (.invokevirtual 26, 3) := by decide +kernel
theorem dL_sets_105 : decode cL_sets 105 = .ok (.ifCond .lt 9, 3) := by decide +kernel
theorem dL_sets_108 : decode cL_sets 108 = .ok (.iinc 11 1, 3) := by decide +kernel
theorem dL_sets_111 : decode cL_sets 111 = .ok (.goto (-16), 3) := by decide +kernel
theorem dL_sets_114 : decode cL_sets 114 = .ok (.iload 11, 2) := by decide +kernel
theorem dL_sets_116 : decode cL_sets 116 = .ok (.ifCond .ne 7, 3) := by decide +kernel
theorem dL_sets_119 : decode cL_sets 119 = .ok (.iconst (-1), 1) := by decide +kernel
theorem dL_sets_120 : decode cL_sets 120 = .ok (.goto 15, 3) := by decide +kernel
theorem dL_sets_123 : decode cL_sets 123 = .ok (.aload_n 0, 1) := by decide +kernel
theorem dL_sets_124 : decode cL_sets 124 = .ok (.iload 6, 2) := by decide +kernel
theorem dL_sets_126 : decode cL_sets 126 = .ok (.iload 7, 2) := by decide +kernel
theorem dL_sets_128 : decode cL_sets 128 = .ok (.iload 11, 2) := by decide +kernel
theorem dL_sets_130 : decode cL_sets 130 = .ok (.iconst 1, 1) := by decide +kernel
theorem dL_sets_131 : decode cL_sets 131 = .ok (.isub, 1) := by decide +kernel
theorem dL_sets_132 : decode cL_sets 132 = .ok (.invokevirtual 26, 3) := by decide +kernel
theorem dL_sets_135 : decode cL_sets 135 = .ok (.istore 12, 2) := by decide +kernel
theorem dL_sets_137 : decode cL_sets 137 = .ok (.iload 12, 2) := by decide +kernel
theorem dL_sets_139 : decode cL_sets 139 = .ok (.ifCond .lt 18, 3) := by decide +kernel
theorem dL_sets_142 : decode cL_sets 142 = .ok (.aload_n 0, 1) := by decide +kernel
theorem dL_sets_143 : decode cL_sets 143 = .ok (.iload 12, 2) := by decide +kernel
theorem dL_sets_145 : decode cL_sets 145 = .ok (.iconst 1, 1) := by decide +kernel
theorem dL_sets_146 : decode cL_sets 146 = .ok (.invokevirtual 19, 3) := by decide +kernel
theorem dL_sets_149 : decode cL_sets 149 = .ok (.iload_n 1, 1) := by decide +kernel
theorem dL_sets_150 : decode cL_sets 150 = .ok (.if_icmp .ne 7, 3) := by decide +kernel
theorem dL_sets_153 : decode cL_sets 153 = .ok (.iconst 1, 1) := by decide +kernel
theorem dL_sets_154 : decode cL_sets 154 = .ok (.goto 4, 3) := by decide +kernel
theorem dL_sets_157 : decode cL_sets 157 = .ok (.iconst 0, 1) := by decide +kernel
theorem dL_sets_158 : decode cL_sets 158 = .ok (.istore 13, 2) := by decide +kernel
theorem dL_sets_160 : decode cL_sets 160 = .ok (.aload_n 0, 1) := by decide +kernel
theorem dL_sets_161 : decode cL_sets 161 = .ok (.iconst 0, 1) := by decide +kernel
theorem dL_sets_162 : decode cL_sets 162 = .ok (.iload 6, 2) := by decide +kernel
theorem dL_sets_164 : decode cL_sets 164 = .ok (.iconst 1, 1) := by decide +kernel
theorem dL_sets_165 : decode cL_sets 165 = .ok (.invokevirtual 15, 3) := by decide +kernel
theorem dL_sets_168 : decode cL_sets 168 = .ok (.ifCond .ge 28, 3) := by decide +kernel
theorem dL_sets_171 : decode cL_sets 171 = .ok (.aload_n 0, 1) := by decide +kernel
theorem dL_sets_172 : decode cL_sets 172 = .ok (.iconst 1, 1) := by decide +kernel
theorem dL_sets_173 : decode cL_sets 173 = .ok (.iload 7, 2) := by decide +kernel
theorem dL_sets_175 : decode cL_sets 175 = .ok (.iconst 1, 1) := by decide +kernel
theorem dL_sets_176 : decode cL_sets 176 = .ok (.invokevirtual 15, 3) := by decide +kernel
theorem dL_sets_179 : decode cL_sets 179 = .ok (.ifCond .ge 17, 3) := by decide +kernel
theorem dL_sets_182 : decode cL_sets 182 = .ok (.aload_n 0, 1) := by decide +kernel
theorem dL_sets_183 : decode cL_sets 183 = .ok (.iconst 0, 1) := by decide +kernel
theorem dL_sets_184 : decode cL_sets 184 = .ok (.iload 6, 2) := by decide +kernel
theorem dL_sets_186 : decode cL_sets 186 = .ok (.iload 7, 2) := by decide +kernel
theorem dL_sets_188 : decode cL_sets 188 = .ok (.invokevirtual 29, 3) := by decide +kernel
theorem dL_sets_191 : decode cL_sets 191 = .ok (.iload 8, 2) := by decide +kernel
theorem dL_sets_193 : decode cL_sets 193 = .ok (.if_icmp .ne 7, 3) := by decide +kernel
theorem dL_sets_196 : decode cL_sets 196 = .ok (.iconst 1, 1) := by decide +kernel
theorem dL_sets_197 : decode cL_sets 197 = .ok (.goto 4, 3) := by decide +kernel
theorem dL_sets_200 : decode cL_sets 200 = .ok (.iconst 0, 1) := by decide +kernel
theorem dL_sets_201 : decode cL_sets 201 = .ok (.istore 14, 2) := by decide +kernel
theorem dL_sets_203 : decode cL_sets 203 = .ok (.iload 13, 2) := by decide +kernel
theorem dL_sets_205 : decode cL_sets 205 = .ok (.ifCond .eq 20, 3) := by decide +kernel
theorem dL_sets_208 : decode cL_sets 208 = .ok (.aload_n 0, 1) := by decide +kernel
theorem dL_sets_209 : decode cL_sets 209 = .ok (.iload 12, 2) := by decide +kernel
theorem dL_sets_211 : decode cL_sets 211 = .ok (.bipush 6, 2) := by decide +kernel
theorem dL_sets_213 : decode cL_sets 213 = .ok (.invokevirtual 19, 3) := by decide +kernel
theorem dL_sets_216 : decode cL_sets 216 = .ok (.iload 8, 2) := by decide +kernel
theorem dL_sets_218 : decode cL_sets 218 = .ok (.if_icmp .ne 7, 3) := by decide +kernel
theorem dL_sets_221 : decode cL_sets 221 = .ok (.iconst 1, 1) := by decide +kernel
theorem dL_sets_222 : decode cL_sets 222 = .ok (.goto 4, 3) := by decide +kernel
theorem dL_sets_225 : decode cL_sets 225 = .ok (.iconst 0, 1) := by decide +kernel
theorem dL_sets_226 : decode cL_sets 226 = .ok (.istore 15, 2) := by decide +kernel
theorem dL_sets_228 : decode cL_sets 228 = .ok (.iload 14, 2) := by decide +kernel
theorem dL_sets_230 : decode cL_sets 230 = .ok (.ifCond .eq 8, 3) := by decide +kernel
theorem dL_sets_233 : decode cL_sets 233 = .ok (.bipush (-4), 2) := by decide +kernel
theorem dL_sets_235 : decode cL_sets 235 = .ok (.goto 38, 3) := by decide +kernel
theorem dL_sets_238 : decode cL_sets 238 = .ok (.iload 10, 2) := by decide +kernel
theorem dL_sets_240 : decode cL_sets 240 = .ok (.ifCond .ne 9, 3) := by decide +kernel
theorem dL_sets_243 : decode cL_sets 243 = .ok (.sipush 1000, 3) := by decide +kernel
theorem dL_sets_246 : decode cL_sets 246 = .ok (.goto 27, 3) := by decide +kernel
theorem dL_sets_249 : decode cL_sets 249 = .ok (.iload 13, 2) := by decide +kernel
theorem dL_sets_251 : decode cL_sets 251 = .ok (.ifCond .eq 8, 3) := by decide +kernel
theorem dL_sets_254 : decode cL_sets 254 = .ok (.iload 12, 2) := by decide +kernel
theorem dL_sets_256 : decode cL_sets 256 = .ok (.goto 17, 3) := by decide +kernel
theorem dL_sets_259 : decode cL_sets 259 = .ok (.iload 9, 2) := by decide +kernel
theorem dL_sets_261 : decode cL_sets 261 = .ok (.bipush 60, 2) := by decide +kernel
theorem dL_sets_263 : decode cL_sets 263 = .ok (.if_icmp .ne 8, 3) := by decide +kernel
theorem dL_sets_266 : decode cL_sets 266 = .ok (.bipush (-3), 2) := by decide +kernel
theorem dL_sets_268 : decode cL_sets 268 = .ok (.goto 5, 3) := by decide +kernel
theorem dL_sets_271 : decode cL_sets 271 = .ok (.iload 9, 2) := by decide +kernel
theorem dL_sets_273 : decode cL_sets 273 = .ok (.istore 16, 2) := by decide +kernel
theorem dL_sets_275 : decode cL_sets 275 = .ok (.aload_n 0, 1) := by decide +kernel
theorem dL_sets_276 : decode cL_sets 276 = .ok (.iload_n 1, 1) := by decide +kernel
theorem dL_sets_277 : decode cL_sets 277 = .ok (.iload 6, 2) := by decide +kernel
theorem dL_sets_279 : decode cL_sets 279 = .ok (.iload 7, 2) := by decide +kernel
theorem dL_sets_281 : decode cL_sets 281 = .ok (.iload 8, 2) := by decide +kernel
theorem dL_sets_283 : decode cL_sets 283 = .ok (.invokevirtual 63, 3) := by decide +kernel
theorem dL_sets_286 : decode cL_sets 286 = .ok (.iload 16, 2) := by decide +kernel
theorem dL_sets_288 : decode cL_sets 288 = .ok (.if_icmp .ne 20, 3) := by decide +kernel
theorem dL_sets_291 : decode cL_sets 291 = .ok (.aload_n 0, 1) := by decide +kernel
theorem dL_sets_292 : decode cL_sets 292 = .ok (.iload_n 1, 1) := by decide +kernel
theorem dL_sets_293 : decode cL_sets 293 = .ok (.iload 6, 2) := by decide +kernel
theorem dL_sets_295 : decode cL_sets 295 = .ok (.iload 7, 2) := by decide +kernel
theorem dL_sets_297 : decode cL_sets 297 = .ok (.sipush 10000, 3) := by decide +kernel
theorem dL_sets_300 : decode cL_sets 300 = .ok (.invokevirtual 63, 3) := by decide +kernel
theorem dL_sets_303 : decode cL_sets 303 = .ok (.bipush (-2), 2) := by decide +kernel
theorem dL_sets_305 : decode cL_sets 305 = .ok (.if_icmp .eq 5, 3) := by decide +kernel
theorem dL_sets_308 : decode cL_sets 308 = .ok (.iconst 0, 1) := by decide +kernel
theorem dL_sets_309 : decode cL_sets 309 = .ok (.ireturn, 1) := by decide +kernel
theorem dL_sets_310 : decode cL_sets 310 = .ok (.iload 16, 2) := by decide +kernel
theorem dL_sets_312 : decode cL_sets 312 = .ok (.ifCond .ge 24, 3) := by decide +kernel
theorem dL_sets_315 : decode cL_sets 315 = .ok (.aload_n 0, 1) := by decide +kernel
theorem dL_sets_316 : decode cL_sets 316 = .ok (.iload 6, 2) := by decide +kernel
theorem dL_sets_318 : decode cL_sets 318 = .ok (.iload 7, 2) := by decide +kernel
theorem dL_sets_320 : decode cL_sets 320 = .ok (.iload 11, 2) := by decide +kernel
theorem dL_sets_322 : decode cL_sets 322 = .ok (.invokevirtual 26, 3) := by decide +kernel
theorem dL_sets_325 : decode cL_sets 325 = .ok (.bipush (-5), 2) := by decide +kernel
theorem dL_sets_327 : decode cL_sets 327 = .ok (.if_icmp .ne 7, 3) := by decide +kernel
theorem dL_sets_330 : decode cL_sets 330 = .ok (.iconst 1, 1) := by decide +kernel
theorem dL_sets_331 : decode cL_sets 331 = .ok (.goto 4, 3) := by decide +kernel
theorem dL_sets_334 : decode cL_sets 334 = .ok (.iconst 0, 1) := by decide +kernel
theorem dL_sets_335 : decode cL_sets 335 = .ok (.ireturn, 1) := by decide +kernel
theorem dL_sets_336 : decode cL_sets 336 = .ok (.iload 10, 2) := by decide +kernel
theorem dL_sets_338 : decode cL_sets 338 = .ok (.ifCond .ne 7, 3) := by decide +kernel
theorem dL_sets_341 : decode cL_sets 341 = .ok (.iconst 0, 1) := by decide +kernel
theorem dL_sets_342 : decode cL_sets 342 = .ok (.goto 29, 3) := by decide +kernel
theorem dL_sets_345 : decode cL_sets 345 = .ok (.iload 13, 2) := by decide +kernel
theorem dL_sets_347 : decode cL_sets 347 = .ok (.ifCond .ne 10, 3) := by decide +kernel
theorem dL_sets_350 : decode cL_sets 350 = .ok (.iload 11, 2) := by decide +kernel
theorem dL_sets_352 : decode cL_sets 352 = .ok (.iconst 1, 1) := by decide +kernel
theorem dL_sets_353 : decode cL_sets 353 = .ok (.iadd, 1) := by decide +kernel
theorem dL_sets_354 : decode cL_sets 354 = .ok (.goto 17, 3) := by decide +kernel
theorem dL_sets_357 : decode cL_sets 357 = .ok (.iload 15, 2) := by decide +kernel
theorem dL_sets_359 : decode cL_sets 359 = .ok (.ifCond .eq 10, 3) := by decide +kernel
theorem dL_sets_362 : decode cL_sets 362 = .ok (.iload 11, 2) := by decide +kernel
theorem dL_sets_364 : decode cL_sets 364 = .ok (.iconst 1, 1) := by decide +kernel
theorem dL_sets_365 : decode cL_sets 365 = .ok (.isub, 1) := by decide +kernel
theorem dL_sets_366 : decode cL_sets 366 = .ok (.goto 5, 3) := by decide +kernel
theorem dL_sets_369 : decode cL_sets 369 = .ok (.iload 11, 2) := by decide +kernel
theorem dL_sets_371 : decode cL_sets 371 = .ok (.istore 17, 2) := by decide +kernel
theorem dL_sets_373 : decode cL_sets 373 = .ok (.aload_n 0, 1) := by decide +kernel
theorem dL_sets_374 : decode cL_sets 374 = .ok (.iconst 0, 1) := by decide +kernel
theorem dL_sets_375 : decode cL_sets 375 = .ok (.iload 6, 2) := by decide +kernel
theorem dL_sets_377 : decode cL_sets 377 = .ok (.iload 7, 2) := by decide +kernel
theorem dL_sets_379 : decode cL_sets 379 = .ok (.invokevirtual 29, 3) := by decide +kernel
theorem dL_sets_382 : decode cL_sets 382 = .ok (.iload 8, 2) := by decide +kernel
theorem dL_sets_384 : decode cL_sets 384 = .ok (.if_icmp .ne 42, 3) := by decide +kernel
theorem dL_sets_387 : decode cL_sets 387 = .ok (.aload_n 0, 1) := by decide +kernel
theorem dL_sets_388 : decode cL_sets 388 = .ok (.iload 6, 2) := by decide +kernel
theorem dL_sets_390 : decode cL_sets 390 = .ok (.iload 7, 2) := by decide +kernel
theorem dL_sets_392 : decode cL_sets 392 = .ok (.iload 17, 2) := by decide +kernel
theorem dL_sets_394 : decode cL_sets 394 = .ok (.invokevirtual 26, 3) := by decide +kernel
theorem dL_sets_397 : decode cL_sets 397 = .ok (.bipush (-5), 2) := by decide +kernel
theorem dL_sets_399 : decode cL_sets 399 = .ok (.if_icmp .ne 27, 3) := by decide +kernel
theorem dL_sets_402 : decode cL_sets 402 = .ok (.iload 17, 2) := by decide +kernel
theorem dL_sets_404 : decode cL_sets 404 = .ok (.ifCond .eq 18, 3) := by decide +kernel
theorem dL_sets_407 : decode cL_sets 407 = .ok (.aload_n 0, 1) := by decide +kernel
theorem dL_sets_408 : decode cL_sets 408 = .ok (.iload 6, 2) := by decide +kernel
theorem dL_sets_410 : decode cL_sets 410 = .ok (.iload 7, 2) := by decide +kernel
theorem dL_sets_412 : decode cL_sets 412 = .ok (.iload 17, 2) := by decide +kernel
theorem dL_sets_414 : decode cL_sets 414 = .ok (.iconst 1, 1) := by decide +kernel
theorem dL_sets_415 : decode cL_sets 415 = .ok (.isub, 1) := by decide +kernel
theorem dL_sets_416 : decode cL_sets 416 = .ok (.invokevirtual 26, 3) := by decide +kernel
theorem dL_sets_419 : decode cL_sets 419 = .ok (.ifCond .lt 7, 3) := by decide +kernel
theorem dL_sets_422 : decode cL_sets 422 = .ok (.iconst 1, 1) := by decide +kernel
theorem dL_sets_423 : decode cL_sets 423 = .ok (.goto 4, 3) := by decide +kernel
theorem dL_sets_426 : decode cL_sets 426 = .ok (.iconst 0, 1) := by decide +kernel
theorem dL_sets_427 : decode cL_sets 427 = .ok (.ireturn, 1) := by decide +kernel
theorem dL_settles_0 : decode cL_settles 0 = .ok (.aload_n 0, 1) := by decide +kernel
theorem dL_settles_1 : decode cL_settles 1 = .ok (.iconst 0, 1) := by decide +kernel
theorem dL_settles_2 : decode cL_settles 2 = .ok (.invokevirtual 22, 3) := by decide +kernel
theorem dL_settles_5 : decode cL_settles 5 = .ok (.istore_n 3, 1) := by decide +kernel
theorem dL_settles_6 : decode cL_settles 6 = .ok (.iload_n 3, 1) := by decide +kernel
theorem dL_settles_7 : decode cL_settles 7 = .ok (.ifCond .ne 27, 3) := by decide +kernel
theorem dL_settles_10 : decode cL_settles 10 = .ok (.aload_n 0, 1) := by decide +kernel
theorem dL_settles_11 : decode cL_settles 11 = .ok (.iconst 0, 1) := by decide +kernel
theorem dL_settles_12 : decode cL_settles 12 = .ok (.invokevirtual 67, 3) := by decide +kernel
theorem dL_settles_15 : decode cL_settles 15 = .ok (.iconst (-1), 1) := by decide +kernel
theorem dL_settles_16 : decode cL_settles 16 = .ok (.if_icmp .ne 16, 3) := by decide +kernel
theorem dL_settles_19 : decode cL_settles 19 = .ok (.aload_n 0, 1) := by decide +kernel
theorem dL_settles_20 : decode cL_settles 20 = .ok (.iconst 0, 1) := by decide +kernel
theorem dL_settles_21 : decode cL_settles 21 = .ok (.invokevirtual 70, 3) := by decide +kernel
theorem dL_settles_24 : decode cL_settles 24 = .ok (.iconst (-1), 1) := by decide +kernel
theorem dL_settles_25 : decode cL_settles 25 = .ok (.if_icmp .ne 7, 3) := by decide +kernel
theorem dL_settles_28 : decode cL_settles 28 = .ok (.iconst 1, 1) := by decide +kernel
theorem dL_settles_29 : decode cL_settles 29 = .ok (.goto 4, 3) := by decide +kernel
theorem dL_settles_32 : decode cL_settles 32 = .ok (.iconst 0, 1) := by decide +kernel
theorem dL_settles_33 : decode cL_settles 33 = .ok (.ireturn, 1) := by decide +kernel
theorem dL_settles_34 : decode cL_settles 34 = .ok (.iload_n 1, 1) := by decide +kernel
theorem dL_settles_35 : decode cL_settles 35 = .ok (.iload_n 3, 1) := by decide +kernel
theorem dL_settles_36 : decode cL_settles 36 = .ok (.invokestatic 54, 3) := by decide +kernel
theorem dL_settles_39 : decode cL_settles 39 = .ok (.istore 4, 2) := by decide +kernel
theorem dL_settles_41 : decode cL_settles 41 = .ok (.aload_n 0, 1) := by decide +kernel
theorem dL_settles_42 : decode cL_settles 42 = .ok (.iload 4, 2) := by decide +kernel
theorem dL_settles_44 : decode cL_settles 44 = .ok (.iconst 0, 1) := by decide +kernel
theorem dL_settles_45 : decode cL_settles 45 = .ok (.invokevirtual 19, 3) := by decide +kernel
theorem dL_settles_48 : decode cL_settles 48 = .ok (.istore 5, 2) := by decide +kernel
theorem dL_settles_50 : decode cL_settles 50 = .ok (.aload_n 0, 1) := by decide +kernel
theorem dL_settles_51 : decode cL_settles 51 = .ok (.iload 4, 2) := by decide +kernel
theorem dL_settles_53 : decode cL_settles 53 = .ok (.iconst 2, 1) := by decide +kernel
theorem dL_settles_54 : decode cL_settles 54 = .ok (.invokevirtual 19, 3) := by decide +kernel
theorem dL_settles_57 : decode cL_settles 57 = .ok (.ifCond .ne 7, 3) := by decide +kernel
theorem dL_settles_60 : decode cL_settles 60 = .ok (.iconst 1, 1) := by decide +kernel
theorem dL_settles_61 : decode cL_settles 61 = .ok (.goto 4, 3) := by decide +kernel
theorem dL_settles_64 : decode cL_settles 64 = .ok (.iconst 0, 1) := by decide +kernel
theorem dL_settles_65 : decode cL_settles 65 = .ok (.istore 6, 2) := by decide +kernel
theorem dL_settles_67 : decode cL_settles 67 = .ok (.aload_n 0, 1) := by decide +kernel
theorem dL_settles_68 : decode cL_settles 68 = .ok (.iload_n 2, 1) := by decide +kernel
theorem dL_settles_69 : decode cL_settles 69 = .ok (.ifCond .eq 7, 3) := by decide +kernel
theorem dL_settles_72 : decode cL_settles 72 = .ok (.iconst 2, 1) := by decide +kernel
theorem dL_settles_73 : decode cL_settles 73 = .ok (.goto 4, 3) := by decide +kernel
theorem dL_settles_76 : decode cL_settles 76 = .ok (.iconst 3, 1) := by decide +kernel
theorem dL_settles_77 : decode cL_settles 77 = .ok (.invokevirtual 22, 3) := by decide +kernel
theorem dL_settles_80 : decode cL_settles 80 = .ok (.istore 7, 2) := by decide +kernel
theorem dL_settles_82 : decode cL_settles 82 = .ok (.aload_n 0, 1) := by decide +kernel
theorem dL_settles_83 : decode cL_settles 83 = .ok (.iload_n 2, 1) := by decide +kernel
theorem dL_settles_84 : decode cL_settles 84 = .ok (.ifCond .eq 7, 3) := by decide +kernel
theorem dL_settles_87 : decode cL_settles 87 = .ok (.iconst 3, 1) := by decide +kernel
theorem dL_settles_88 : decode cL_settles 88 = .ok (.goto 4, 3) := by decide +kernel
theorem dL_settles_91 : decode cL_settles 91 = .ok (.iconst 2, 1) := by decide +kernel
theorem dL_settles_92 : decode cL_settles 92 = .ok (.invokevirtual 22, 3) := by decide +kernel
theorem dL_settles_95 : decode cL_settles 95 = .ok (.istore 8, 2) := by decide +kernel
theorem dL_settles_97 : decode cL_settles 97 = .ok (.aload_n 0, 1) := by decide +kernel
theorem dL_settles_98 : decode cL_settles 98 = .ok (.iconst 4, 1) := by decide +kernel
theorem dL_settles_99 : decode cL_settles 99 = .ok (.invokevirtual 22, 3) := by decide +kernel
theorem dL_settles_102 : decode cL_settles 102 = .ok (.istore 9, 2) := by decide +kernel
theorem dL_settles_104 : decode cL_settles 104 = .ok (.aload_n 0, 1) := by decide +kernel
theorem dL_settles_105 : decode cL_settles 105 = .ok (.iload 4, 2) := by decide +kernel
theorem dL_settles_107 : decode cL_settles 107 = .ok (.iconst 3, 1) := by decide +kernel
theorem dL_settles_108 : decode cL_settles 108 = .ok (.invokevirtual 19, 3) := by decide +kernel
theorem dL_settles_111 : decode cL_settles 111 = .ok (.istore 10, 2) := by decide +kernel
theorem dL_settles_113 : decode cL_settles 113 = .ok (.aload_n 0, 1) := by decide +kernel
theorem dL_settles_114 : decode cL_settles 114 = .ok (.iload 4, 2) := by decide +kernel
theorem dL_settles_116 : decode cL_settles 116 = .ok (.iconst 4, 1) := by decide +kernel
theorem dL_settles_117 : decode cL_settles 117 = .ok (.invokevirtual 19, 3) := by decide +kernel
theorem dL_settles_120 : decode cL_settles 120 = .ok (.istore 11, 2) := by decide +kernel
theorem dL_settles_122 : decode cL_settles 122 = .ok (.iload 5, 2) := by decide +kernel
theorem dL_settles_124 : decode cL_settles 124 = .ok (.iconst 2, 1) := by decide +kernel
theorem dL_settles_125 : decode cL_settles 125 = .ok (.idiv, 1) := by decide +kernel
theorem dL_settles_126 : decode cL_settles 126 = .ok (.istore 12, 2) := by decide +kernel
theorem dL_settles_128 : decode cL_settles 128 = .ok (.iload_n 2, 1) := by decide +kernel
theorem dL_settles_129 : decode cL_settles 129 = .ok (.ifCond .eq 23, 3) := by decide +kernel
theorem dL_settles_132 : decode cL_settles 132 = .ok (.iload 5, 2) := by decide +kernel
theorem dL_settles_134 : decode cL_settles 134 = .ok (.iconst 1, 1) := by decide +kernel
theorem dL_settles_135 : decode cL_settles 135 = .ok (.if_icmp .eq 9, 3) := by decide +kernel
theorem dL_settles_138 : decode cL_settles 138 = .ok (.iload 5, 2) := by decide +kernel
theorem dL_settles_140 : decode cL_settles 140 = .ok (.iconst 3, 1) := by decide +kernel
theorem dL_settles_141 : decode cL_settles 141 = .ok (.if_icmp .ne 7, 3) := by decide +kernel
theorem dL_settles_144 : decode cL_settles 144 = .ok (.iconst 1, 1) := by decide +kernel
theorem dL_settles_145 : decode cL_settles 145 = .ok (.goto 23, 3) := by decide +kernel
theorem dL_settles_148 : decode cL_settles 148 = .ok (.iconst 0, 1) := by decide +kernel
theorem dL_settles_149 : decode cL_settles 149 = .ok (.goto 19, 3) := by decide +kernel
theorem dL_settles_152 : decode cL_settles 152 = .ok (.iload 5, 2) := by decide +kernel
theorem dL_settles_154 : decode cL_settles 154 = .ok (.ifCond .eq 9, 3) := by decide +kernel
theorem dL_settles_157 : decode cL_settles 157 = .ok (.iload 5, 2) := by decide +kernel
theorem dL_settles_159 : decode cL_settles 159 = .ok (.iconst 2, 1) := by decide +kernel
theorem dL_settles_160 : decode cL_settles 160 = .ok (.if_icmp .ne 7, 3) := by decide +kernel
theorem dL_settles_163 : decode cL_settles 163 = .ok (.iconst 1, 1) := by decide +kernel
theorem dL_settles_164 : decode cL_settles 164 = .ok (.goto 4, 3) := by decide +kernel
theorem dL_settles_167 : decode cL_settles 167 = .ok (.iconst 0, 1) := by decide +kernel
theorem dL_settles_168 : decode cL_settles 168 = .ok (.istore 13, 2) := by decide +kernel
theorem dL_settles_170 : decode cL_settles 170 = .ok (.iload 5, 2) := by decide +kernel
theorem dL_settles_172 : decode cL_settles 172 = .ok (.iconst 4, 1) := by decide +kernel
theorem dL_settles_173 : decode cL_settles 173 = .ok (.if_icmp .ne 7, 3) := by decide +kernel
theorem dL_settles_176 : decode cL_settles 176 = .ok (.iconst 0, 1) := by decide +kernel
theorem dL_settles_177 : decode cL_settles 177 = .ok (.goto 10, 3) := by decide +kernel
theorem dL_settles_180 : decode cL_settles 180 = .ok (.aload_n 0, 1) := by decide +kernel
theorem dL_settles_181 : decode cL_settles 181 = .ok (.iconst 0, 1) := by decide +kernel
theorem dL_settles_182 : decode cL_settles 182 = .ok (.iload 12, 2) := by decide +kernel
theorem dL_settles_184 : decode cL_settles 184 = .ok (.invokevirtual 9, 3) := by decide +kernel
theorem dL_settles_187 : decode cL_settles 187 = .ok (.istore 14, 2) := by decide +kernel
theorem dL_settles_189 : decode cL_settles 189 = .ok (.aload_n 0, 1) := by decide +kernel
theorem dL_settles_190 : decode cL_settles 190 = .ok (.iload 4, 2) := by decide +kernel
theorem dL_settles_192 : decode cL_settles 192 = .ok (.iconst 5, 1) := by decide +kernel
theorem dL_settles_193 : decode cL_settles 193 = .ok (.invokevirtual 19, 3) := by decide +kernel
theorem dL_settles_196 : decode cL_settles 196 = .ok (.istore 15, 2) := by decide +kernel
theorem dL_settles_198 : decode cL_settles 198 = .ok (.iload 5, 2) := by decide +kernel
theorem dL_settles_200 : decode cL_settles 200 = .ok (.iconst 4, 1) := by decide +kernel
theorem dL_settles_201 : decode cL_settles 201 = .ok (.if_icmp .eq 8, 3) := by decide +kernel
theorem dL_settles_204 : decode cL_settles 204 = .ok (.iload 6, 2) := by decide +kernel
theorem dL_settles_206 : decode cL_settles 206 = .ok (.ifCond .ne 7, 3) := by decide +kernel
theorem dL_settles_209 : decode cL_settles 209 = .ok (.iconst 0, 1) := by decide +kernel
theorem dL_settles_210 : decode cL_settles 210 = .ok (.goto 22, 3) := by decide +kernel
theorem dL_settles_213 : decode cL_settles 213 = .ok (.aload_n 0, 1) := by decide +kernel
theorem dL_settles_214 : decode cL_settles 214 = .ok (.iload 12, 2) := by decide +kernel
theorem dL_settles_216 : decode cL_settles 216 = .ok (.iload 12, 2) := by decide +kernel
theorem dL_settles_218 : decode cL_settles 218 = .ok (.ifCond .ne 8, 3) := by decide +kernel
theorem dL_settles_221 : decode cL_settles 221 = .ok (.iload 10, 2) := by decide +kernel
theorem dL_settles_223 : decode cL_settles 223 = .ok (.goto 5, 3) := by decide +kernel
theorem dL_settles_226 : decode cL_settles 226 = .ok (.iload 11, 2) := by decide +kernel
theorem dL_settles_228 : decode cL_settles 228 = .ok (.iconst 4, 1) := by decide +kernel
theorem dL_settles_229 : decode cL_settles 229 = .ok (.invokevirtual 15, 3) := by decide +kernel
theorem dL_settles_232 : decode cL_settles 232 = .ok (.istore 16, 2) := by decide +kernel
theorem dL_settles_234 : decode cL_settles 234 = .ok (.iload 6, 2) := by decide +kernel
theorem dL_settles_236 : decode cL_settles 236 = .ok (.ifCond .ne 8, 3) := by decide +kernel
theorem dL_settles_239 : decode cL_settles 239 = .ok (.bipush (-4), 2) := by decide +kernel
theorem dL_settles_241 : decode cL_settles 241 = .ok (.goto 22, 3) := by decide +kernel
theorem dL_settles_244 : decode cL_settles 244 = .ok (.iconst 1, 1) := by decide +kernel
theorem dL_settles_245 : decode cL_settles 245 = .ok (.aload_n 0, 1) := by decide +kernel
theorem dL_settles_246 : decode cL_settles 246 = .ok (.iload 4, 2) := by decide +kernel
theorem dL_settles_248 : decode cL_settles 248 = .ok (.iload_n 2, 1) := by decide +kernel
theorem dL_settles_249 : decode cL_settles 249 = .ok (.ifCond .eq 8, 3) := by decide +kernel
theorem dL_settles_252 : decode cL_settles 252 = .ok (.bipush 7, 2) := by decide +kernel
theorem dL_settles_254 : decode cL_settles 254 = .ok (.goto 5, 3) := by decide +kernel
theorem dL_settles_257 : decode cL_settles 257 = .ok (.bipush 8, 2) := by decide +kernel
theorem dL_settles_259 : decode cL_settles 259 = .ok (.invokevirtual 19, 3) := by decide +kernel
theorem dL_settles_262 : decode cL_settles 262 = .ok (.iadd, 1) := by decide +kernel
theorem dL_settles_263 : decode cL_settles 263 = .ok (.istore 17, 2) := by decide +kernel
theorem dL_settles_265 : decode cL_settles 265 = .ok (.iload_n 2, 1) := by decide +kernel
theorem dL_settles_266 : decode cL_settles 266 = .ok (.ifCond .eq 12, 3) := by decide +kernel
theorem dL_settles_269 : decode cL_settles 269 = .ok (.aload_n 0, 1) := by decide +kernel
theorem dL_settles_270 : decode cL_settles 270 = .ok (.iload 4, 2) := by decide +kernel
theorem dL_settles_272 : decode cL_settles 272 = .ok (.invokevirtual 67, 3) := by decide +kernel
theorem dL_settles_275 : decode cL_settles 275 = .ok (.goto 9, 3) := by decide +kernel
theorem dL_settles_278 : decode cL_settles 278 = .ok (.aload_n 0, 1) := by decide +kernel
theorem dL_settles_279 : decode cL_settles 279 = .ok (.iload 4, 2) := by decide +kernel
theorem dL_settles_281 : decode cL_settles 281 = .ok (.invokevirtual 70, 3) := by decide +kernel
theorem dL_settles_284 : decode cL_settles 284 = .ok (.istore 18, 2) := by decide +kernel
theorem dL_settles_286 : decode cL_settles 286 = .ok (.iload 18, 2) := by decide +kernel
theorem dL_settles_288 : decode cL_settles 288 = .ok (.iload 17, 2) := by decide +kernel
theorem dL_settles_290 : decode cL_settles 290 = .ok (.if_icmp .ne 21, 3) := by decide +kernel
theorem dL_settles_293 : decode cL_settles 293 = .ok (.aload_n 0, 1) := by decide +kernel
theorem dL_settles_294 : decode cL_settles 294 = .ok (.iload_n 2, 1) := by decide +kernel
theorem dL_settles_295 : decode cL_settles 295 = .ok (.ifCond .eq 7, 3) := by decide +kernel
theorem dL_settles_298 : decode cL_settles 298 = .ok (.iconst 3, 1) := by decide +kernel
theorem dL_settles_299 : decode cL_settles 299 = .ok (.goto 4, 3) := by decide +kernel
theorem dL_settles_302 : decode cL_settles 302 = .ok (.iconst 2, 1) := by decide +kernel
theorem dL_settles_303 : decode cL_settles 303 = .ok (.invokevirtual 22, 3) := by decide +kernel
theorem dL_settles_306 : decode cL_settles 306 = .ok (.iload 8, 2) := by decide +kernel
theorem dL_settles_308 : decode cL_settles 308 = .ok (.if_icmp .eq 5, 3) := by decide +kernel
theorem dL_settles_311 : decode cL_settles 311 = .ok (.iconst 0, 1) := by decide +kernel
theorem dL_settles_312 : decode cL_settles 312 = .ok (.ireturn, 1) := by decide +kernel
theorem dL_settles_313 : decode cL_settles 313 = .ok (.iload 6, 2) := by decide +kernel
theorem dL_settles_315 : decode cL_settles 315 = .ok (.ifCond .ne 5, 3) := by decide +kernel
theorem dL_settles_318 : decode cL_settles 318 = .ok (.iconst 1, 1) := by decide +kernel
theorem dL_settles_319 : decode cL_settles 319 = .ok (.ireturn, 1) := by decide +kernel
theorem dL_settles_320 : decode cL_settles 320 = .ok (.iload_n 2, 1) := by decide +kernel
theorem dL_settles_321 : decode cL_settles 321 = .ok (.ifCond .eq 12, 3) := by decide +kernel
theorem dL_settles_324 : decode cL_settles 324 = .ok (.iload 13, 2) := by decide +kernel
theorem dL_settles_326 : decode cL_settles 326 = .ok (.ifCond .eq 7, 3) := by decide +kernel
theorem dL_settles_329 : decode cL_settles 329 = .ok (.iconst 1, 1) := by decide +kernel
theorem dL_settles_330 : decode cL_settles 330 = .ok (.goto 4, 3) := by decide +kernel
theorem dL_settles_333 : decode cL_settles 333 = .ok (.iconst 0, 1) := by decide +kernel
theorem dL_settles_334 : decode cL_settles 334 = .ok (.istore 19, 2) := by decide +kernel
theorem dL_settles_336 : decode cL_settles 336 = .ok (.aload_n 0, 1) := by decide +kernel
theorem dL_settles_337 : decode cL_settles 337 = .ok (.iload_n 2, 1) := by decide +kernel
theorem dL_settles_338 : decode cL_settles 338 = .ok (.ifCond .eq 7, 3) := by decide +kernel
theorem dL_settles_341 : decode cL_settles 341 = .ok (.iconst 2, 1) := by decide +kernel
theorem dL_settles_342 : decode cL_settles 342 = .ok (.goto 4, 3) := by decide +kernel
theorem dL_settles_345 : decode cL_settles 345 = .ok (.iconst 3, 1) := by decide +kernel
theorem dL_settles_346 : decode cL_settles 346 = .ok (.invokevirtual 22, 3) := by decide +kernel
theorem dL_settles_349 : decode cL_settles 349 = .ok (.iload 7, 2) := by decide +kernel
theorem dL_settles_351 : decode cL_settles 351 = .ok (.iload 17, 2) := by decide +kernel
theorem dL_settles_353 : decode cL_settles 353 = .ok (.iadd, 1) := by decide +kernel
theorem dL_settles_354 : decode cL_settles 354 = .ok (.if_icmp .ne 48, 3) := by decide +kernel
theorem dL_settles_357 : decode cL_settles 357 = .ok (.aload_n 0, 1) := by decide +kernel
theorem dL_settles_358 : decode cL_settles 358 = .ok (.iconst 4, 1) := by decide +kernel
theorem dL_settles_359 : decode cL_settles 359 = .ok (.invokevirtual 22, 3) := by decide +kernel
theorem dL_settles_362 : decode cL_settles 362 = .ok (.iload 9, 2) := by decide +kernel
theorem dL_settles_364 : decode cL_settles 364 = .ok (.iload 19, 2) := by decide +kernel
theorem dL_settles_366 : decode cL_settles 366 = .ok (.ifCond .eq 8, 3) := by decide +kernel
theorem dL_settles_369 : decode cL_settles 369 = .ok (.iload 16, 2) := by decide +kernel
theorem dL_settles_371 : decode cL_settles 371 = .ok (.goto 4, 3) := by decide +kernel
theorem dL_settles_374 : decode cL_settles 374 = .ok (.iconst 0, 1) := by decide +kernel
theorem dL_settles_375 : decode cL_settles 375 = .ok (.iadd, 1) := by decide +kernel
theorem dL_settles_376 : decode cL_settles 376 = .ok (.if_icmp .ne 26, 3) := by decide +kernel
theorem dL_settles_379 : decode cL_settles 379 = .ok (.aload_n 0, 1) := by decide +kernel
theorem dL_settles_380 : decode cL_settles 380 = .ok (.iload 4, 2) := by decide +kernel
theorem dL_settles_382 : decode cL_settles 382 = .ok (.iconst 2, 1) := by decide +kernel
theorem dL_settles_383 : decode cL_settles 383 = .ok (.invokevirtual 19, 3) := by decide +kernel
theorem dL_settles_386 : decode cL_settles 386 = .ok (.iload_n 2, 1) := by decide +kernel
theorem dL_settles_387 : decode cL_settles 387 = .ok (.ifCond .eq 7, 3) := by decide +kernel
theorem dL_settles_390 : decode cL_settles 390 = .ok (.iconst 1, 1) := by decide +kernel
theorem dL_settles_391 : decode cL_settles 391 = .ok (.goto 4, 3) := by decide +kernel
theorem dL_settles_394 : decode cL_settles 394 = .ok (.iconst 2, 1) := by decide +kernel
theorem dL_settles_395 : decode cL_settles 395 = .ok (.if_icmp .ne 7, 3) := by decide +kernel
theorem dL_settles_398 : decode cL_settles 398 = .ok (.iconst 1, 1) := by decide +kernel
theorem dL_settles_399 : decode cL_settles 399 = .ok (.goto 4, 3) := by decide +kernel
theorem dL_settles_402 : decode cL_settles 402 = .ok (.iconst 0, 1) := by decide +kernel
theorem dL_settles_403 : decode cL_settles 403 = .ok (.istore 20, 2) := by decide +kernel
theorem dL_settles_405 : decode cL_settles 405 = .ok (.iload 5, 2) := by decide +kernel
theorem dL_settles_407 : decode cL_settles 407 = .ok (.iconst 4, 1) := by decide +kernel
theorem dL_settles_408 : decode cL_settles 408 = .ok (.if_icmp .ne 88, 3) := by decide +kernel
theorem dL_settles_411 : decode cL_settles 411 = .ok (.iload 20, 2) := by decide +kernel
theorem dL_settles_413 : decode cL_settles 413 = .ok (.ifCond .eq 81, 3) := by decide +kernel
theorem dL_settles_416 : decode cL_settles 416 = .ok (.iload_n 2, 1) := by decide +kernel
theorem dL_settles_417 : decode cL_settles 417 = .ok (.ifCond .eq 73, 3) := by decide +kernel
theorem dL_settles_420 : decode cL_settles 420 = .ok (.aload_n 0, 1) := by decide +kernel
theorem dL_settles_421 : decode cL_settles 421 = .ok (.iconst 0, 1) := by decide +kernel
theorem dL_settles_422 : decode cL_settles 422 = .ok (.iload 10, 2) := by decide +kernel
theorem dL_settles_424 : decode cL_settles 424 = .ok (.iconst 0, 1) := by decide +kernel
theorem dL_settles_425 : decode cL_settles 425 = .ok (.invokevirtual 15, 3) := by decide +kernel
theorem dL_settles_428 : decode cL_settles 428 = .ok (.bipush (-5), 2) := by decide +kernel
theorem dL_settles_430 : decode cL_settles 430 = .ok (.if_icmp .ne 64, 3) := by decide +kernel
theorem dL_settles_433 : decode cL_settles 433 = .ok (.aload_n 0, 1) := by decide +kernel
theorem dL_settles_434 : decode cL_settles 434 = .ok (.iconst 1, 1) := by decide +kernel
theorem dL_settles_435 : decode cL_settles 435 = .ok (.iload 11, 2) := by decide +kernel
theorem dL_settles_437 : decode cL_settles 437 = .ok (.iconst 0, 1) := by decide +kernel
theorem dL_settles_438 : decode cL_settles 438 = .ok (.invokevirtual 15, 3) := by decide +kernel
theorem dL_settles_441 : decode cL_settles 441 = .ok (.bipush (-5), 2) := by decide +kernel
theorem dL_settles_443 : decode cL_settles 443 = .ok (.if_icmp .ne 51, 3) := by decide +kernel
theorem dL_settles_446 : decode cL_settles 446 = .ok (.aload_n 0, 1) := by decide +kernel
theorem dL_settles_447 : decode cL_settles 447 = .ok (.iload 10, 2) := by decide +kernel
theorem dL_settles_449 : decode cL_settles 449 = .ok (.iload 11, 2) := by decide +kernel
theorem dL_settles_451 : decode cL_settles 451 = .ok (.iconst 0, 1) := by decide +kernel
theorem dL_settles_452 : decode cL_settles 452 = .ok (.invokevirtual 26, 3) := by decide +kernel
theorem dL_settles_455 : decode cL_settles 455 = .ok (.ifCond .lt 21, 3) := by decide +kernel
theorem dL_settles_458 : decode cL_settles 458 = .ok (.aload_n 0, 1) := by decide +kernel
theorem dL_settles_459 : decode cL_settles 459 = .ok (.aload_n 0, 1) := by decide +kernel
theorem dL_settles_460 : decode cL_settles 460 = .ok (.iload 10, 2) := by decide +kernel
theorem dL_settles_462 : decode cL_settles 462 = .ok (.iload 11, 2) := by decide +kernel
theorem dL_settles_464 : decode cL_settles 464 = .ok (.iconst 0, 1) := by decide +kernel
theorem dL_settles_465 : decode cL_settles 465 = .ok (.invokevirtual 26, 3) := by decide +kernel
theorem dL_settles_468 : decode cL_settles 468 = .ok (.bipush 6, 2) := by decide +kernel
theorem dL_settles_470 : decode cL_settles 470 = .ok (.invokevirtual 19, 3) := by decide +kernel
theorem dL_settles_473 : decode cL_settles 473 = .ok (.goto 12, 3) := by decide +kernel
theorem dL_settles_476 : decode cL_settles 476 = .ok (.aload_n 0, 1) := by decide +kernel
theorem dL_settles_477 : decode cL_settles 477 = .ok (.iconst 0, 1) := by decide +kernel
theorem dL_settles_478 : decode cL_settles 478 = .ok (.iload 10, 2) := by decide +kernel
theorem dL_settles_480 : decode cL_settles 480 = .ok (.iload 11, 2) := by decide +kernel
theorem dL_settles_482 : decode cL_settles 482 = .ok (.invokevirtual 29, 3) := by decide +kernel
theorem dL_settles_485 : decode cL_settles 485 = .ok (.iload 15, 2) := by decide +kernel
theorem dL_settles_487 : decode cL_settles 487 = .ok (.if_icmp .ne 7, 3) := by decide +kernel
theorem dL_settles_490 : decode cL_settles 490 = .ok (.iconst 1, 1) := by decide +kernel
theorem dL_settles_491 : decode cL_settles 491 = .ok (.goto 4, 3) := by decide +kernel
theorem dL_settles_494 : decode cL_settles 494 = .ok (.iconst 0, 1) := by decide +kernel
theorem dL_settles_495 : decode cL_settles 495 = .ok (.ireturn, 1) := by decide +kernel
theorem dL_settles_496 : decode cL_settles 496 = .ok (.iload 20, 2) := by decide +kernel
theorem dL_settles_498 : decode cL_settles 498 = .ok (.ifCond .eq 30, 3) := by decide +kernel
theorem dL_settles_501 : decode cL_settles 501 = .ok (.aload_n 0, 1) := by decide +kernel
theorem dL_settles_502 : decode cL_settles 502 = .ok (.iconst 0, 1) := by decide +kernel
theorem dL_settles_503 : decode cL_settles 503 = .ok (.iload 12, 2) := by decide +kernel
theorem dL_settles_505 : decode cL_settles 505 = .ok (.invokevirtual 9, 3) := by decide +kernel
theorem dL_settles_508 : decode cL_settles 508 = .ok (.iload 14, 2) := by decide +kernel
theorem dL_settles_510 : decode cL_settles 510 = .ok (.iload 13, 2) := by decide +kernel
theorem dL_settles_512 : decode cL_settles 512 = .ok (.ifCond .eq 7, 3) := by decide +kernel
theorem dL_settles_515 : decode cL_settles 515 = .ok (.iconst 1, 1) := by decide +kernel
theorem dL_settles_516 : decode cL_settles 516 = .ok (.goto 4, 3) := by decide +kernel
theorem dL_settles_519 : decode cL_settles 519 = .ok (.iconst 0, 1) := by decide +kernel
theorem dL_settles_520 : decode cL_settles 520 = .ok (.isub, 1) := by decide +kernel
theorem dL_settles_521 : decode cL_settles 521 = .ok (.if_icmp .ne 7, 3) := by decide +kernel
theorem dL_settles_524 : decode cL_settles 524 = .ok (.iconst 1, 1) := by decide +kernel
theorem dL_settles_525 : decode cL_settles 525 = .ok (.goto 4, 3) := by decide +kernel
theorem dL_settles_528 : decode cL_settles 528 = .ok (.iconst 0, 1) := by decide +kernel
theorem dL_settles_529 : decode cL_settles 529 = .ok (.ireturn, 1) := by decide +kernel
theorem dL_orders_0 : decode cL_orders 0 = .ok (.aload_n 0, 1) := by decide +kernel
theorem dL_orders_1 : decode cL_orders 1 = .ok (.invokevirtual 73, 3) := by decide +kernel
theorem dL_orders_4 : decode cL_orders 4 = .ok (.pop, 1) := by decide +kernel
theorem dL_orders_5 : decode cL_orders 5 = .ok (.aload_n 0, 1) := by decide +kernel
theorem dL_orders_6 : decode cL_orders 6 = .ok (.iload_n 1, 1) := by decide +kernel
theorem dL_orders_7 : decode cL_orders 7 = .ok (.invokevirtual 77, 3) := by decide +kernel
theorem dL_orders_10 : decode cL_orders 10 = .ok (.bipush (-100), 2) := by decide +kernel
theorem dL_orders_12 : decode cL_orders 12 = .ok (.if_icmp .ne 12, 3) := by decide +kernel
theorem dL_orders_15 : decode cL_orders 15 = .ok (.aload_n 0, 1) := by decide +kernel
theorem dL_orders_16 : decode cL_orders 16 = .ok (.iconst 4, 1) := by decide +kernel
theorem dL_orders_17 : decode cL_orders 17 = .ok (.invokevirtual 77, 3) := by decide +kernel
theorem dL_orders_20 : decode cL_orders 20 = .ok (.iconst (-1), 1) := by decide +kernel
theorem dL_orders_21 : decode cL_orders 21 = .ok (.if_icmp .eq 5, 3) := by decide +kernel
theorem dL_orders_24 : decode cL_orders 24 = .ok (.iconst 0, 1) := by decide +kernel
theorem dL_orders_25 : decode cL_orders 25 = .ok (.ireturn, 1) := by decide +kernel
theorem dL_orders_26 : decode cL_orders 26 = .ok (.iload_n 2, 1) := by decide +kernel
theorem dL_orders_27 : decode cL_orders 27 = .ok (.iconst 1, 1) := by decide +kernel
theorem dL_orders_28 : decode cL_orders 28 = .ok (.iand, 1) := by decide +kernel
theorem dL_orders_29 : decode cL_orders 29 = .ok (.istore 4, 2) := by decide +kernel
theorem dL_orders_31 : decode cL_orders 31 = .ok (.aload_n 0, 1) := by decide +kernel
theorem dL_orders_32 : decode cL_orders 32 = .ok (.iconst 0, 1) := by decide +kernel
theorem dL_orders_33 : decode cL_orders 33 = .ok (.iload 4, 2) := by decide +kernel
theorem dL_orders_35 : decode cL_orders 35 = .ok (.invokevirtual 9, 3) := by decide +kernel
theorem dL_orders_38 : decode cL_orders 38 = .ok (.istore 5, 2) := by decide +kernel
theorem dL_orders_40 : decode cL_orders 40 = .ok (.aload_n 0, 1) := by decide +kernel
theorem dL_orders_41 : decode cL_orders 41 = .ok (.iconst 0, 1) := by decide +kernel
theorem dL_orders_42 : decode cL_orders 42 = .ok (.invokevirtual 22, 3) := by decide +kernel
theorem dL_orders_45 : decode cL_orders 45 = .ok (.istore 6, 2) := by decide +kernel
theorem dL_orders_47 : decode cL_orders 47 = .ok (.aload_n 0, 1) := by decide +kernel
theorem dL_orders_48 : decode cL_orders 48 = .ok (.iconst 5, 1) := by decide +kernel
theorem dL_orders_49 : decode cL_orders 49 = .ok (.invokevirtual 22, 3) := by decide +kernel
theorem dL_orders_52 : decode cL_orders 52 = .ok (.iconst 1, 1) := by decide +kernel
theorem dL_orders_53 : decode cL_orders 53 = .ok (.if_icmp .ne 7, 3) := by decide +kernel
theorem dL_orders_56 : decode cL_orders 56 = .ok (.iconst 1, 1) := by decide +kernel
theorem dL_orders_57 : decode cL_orders 57 = .ok (.goto 4, 3) := by decide +kernel
theorem dL_orders_60 : decode cL_orders 60 = .ok (.iconst 0, 1) := by decide +kernel
theorem dL_orders_61 : decode cL_orders 61 = .ok (.istore 7, 2) := by decide +kernel
theorem dL_orders_63 : decode cL_orders 63 = .ok (.aload_n 0, 1) := by decide +kernel
theorem dL_orders_64 : decode cL_orders 64 = .ok (.iload_n 2, 1) := by decide +kernel
theorem dL_orders_65 : decode cL_orders 65 = .ok (.iconst 2, 1) := by decide +kernel
theorem dL_orders_66 : decode cL_orders 66 = .ok (.iand, 1) := by decide +kernel
theorem dL_orders_67 : decode cL_orders 67 = .ok (.ifCond .ne 8, 3) := by decide +kernel
theorem dL_orders_70 : decode cL_orders 70 = .ok (.bipush 43, 2) := by decide +kernel
theorem dL_orders_72 : decode cL_orders 72 = .ok (.goto 5, 3) := by decide +kernel
theorem dL_orders_75 : decode cL_orders 75 = .ok (.bipush 45, 2) := by decide +kernel
theorem dL_orders_77 : decode cL_orders 77 = .ok (.invokevirtual 80, 3) := by decide +kernel
theorem dL_orders_80 : decode cL_orders 80 = .ok (.istore 8, 2) := by decide +kernel
theorem dL_orders_82 : decode cL_orders 82 = .ok (.aload_n 0, 1) := by decide +kernel
theorem dL_orders_83 : decode cL_orders 83 = .ok (.iload_n 1, 1) := by decide +kernel
theorem dL_orders_84 : decode cL_orders 84 = .ok (.invokevirtual 77, 3) := by decide +kernel
theorem dL_orders_87 : decode cL_orders 87 = .ok (.bipush (-100), 2) := by decide +kernel
theorem dL_orders_89 : decode cL_orders 89 = .ok (.iload 8, 2) := by decide +kernel
theorem dL_orders_91 : decode cL_orders 91 = .ok (.isub, 1) := by decide +kernel
theorem dL_orders_92 : decode cL_orders 92 = .ok (.if_icmp .ne 7, 3) := by decide +kernel
theorem dL_orders_95 : decode cL_orders 95 = .ok (.iconst 1, 1) := by decide +kernel
theorem dL_orders_96 : decode cL_orders 96 = .ok (.goto 4, 3) := by decide +kernel
theorem dL_orders_99 : decode cL_orders 99 = .ok (.iconst 0, 1) := by decide +kernel
theorem dL_orders_100 : decode cL_orders 100 = .ok (.istore 9, 2) := by decide +kernel
theorem dL_orders_102 : decode cL_orders 102 = .ok (.aload_n 0, 1) := by decide +kernel
theorem dL_orders_103 : decode cL_orders 103 = .ok (.iload 4, 2) := by decide +kernel
theorem dL_orders_105 : decode cL_orders 105 = .ok (.ifCond .ne 8, 3) := by decide +kernel
theorem dL_orders_108 : decode cL_orders 108 = .ok (.bipush 114, 2) := by decide +kernel
theorem dL_orders_110 : decode cL_orders 110 = .ok (.goto 5, 3) := by decide +kernel
theorem dL_orders_113 : decode cL_orders 113 = .ok (.bipush 99, 2) := by decide +kernel
theorem dL_orders_115 : decode cL_orders 115 = .ok (.invokevirtual 80, 3) := by decide +kernel
theorem dL_orders_118 : decode cL_orders 118 = .ok (.pop, 1) := by decide +kernel
theorem dL_orders_119 : decode cL_orders 119 = .ok (.aload_n 0, 1) := by decide +kernel
theorem dL_orders_120 : decode cL_orders 120 = .ok (.bipush 48, 2) := by decide +kernel
theorem dL_orders_122 : decode cL_orders 122 = .ok (.invokevirtual 80, 3) := by decide +kernel
theorem dL_orders_125 : decode cL_orders 125 = .ok (.pop, 1) := by decide +kernel
theorem dL_orders_126 : decode cL_orders 126 = .ok (.aload_n 0, 1) := by decide +kernel
theorem dL_orders_127 : decode cL_orders 127 = .ok (.bipush 48, 2) := by decide +kernel
theorem dL_orders_129 : decode cL_orders 129 = .ok (.iload_n 3, 1) := by decide +kernel
theorem dL_orders_130 : decode cL_orders 130 = .ok (.bipush 10, 2) := by decide +kernel
theorem dL_orders_132 : decode cL_orders 132 = .ok (.invokestatic 54, 3) := by decide +kernel
theorem dL_orders_135 : decode cL_orders 135 = .ok (.iadd, 1) := by decide +kernel
theorem dL_orders_136 : decode cL_orders 136 = .ok (.i2c, 1) := by decide +kernel
theorem dL_orders_137 : decode cL_orders 137 = .ok (.invokevirtual 80, 3) := by decide +kernel
theorem dL_orders_140 : decode cL_orders 140 = .ok (.istore 8, 2) := by decide +kernel
theorem dL_orders_142 : decode cL_orders 142 = .ok (.iload 9, 2) := by decide +kernel
theorem dL_orders_144 : decode cL_orders 144 = .ok (.ifCond .eq 16, 3) := by decide +kernel
theorem dL_orders_147 : decode cL_orders 147 = .ok (.aload_n 0, 1) := by decide +kernel
theorem dL_orders_148 : decode cL_orders 148 = .ok (.iload_n 1, 1) := by decide +kernel
theorem dL_orders_149 : decode cL_orders 149 = .ok (.invokevirtual 77, 3) := by decide +kernel
theorem dL_orders_152 : decode cL_orders 152 = .ok (.bipush (-99), 2) := by decide +kernel
theorem dL_orders_154 : decode cL_orders 154 = .ok (.iload 8, 2) := by decide +kernel
theorem dL_orders_156 : decode cL_orders 156 = .ok (.isub, 1) := by decide +kernel
theorem dL_orders_157 : decode cL_orders 157 = .ok (.if_icmp .eq 5, 3) := by decide +kernel
theorem dL_orders_160 : decode cL_orders 160 = .ok (.iconst 0, 1) := by decide +kernel
theorem dL_orders_161 : decode cL_orders 161 = .ok (.ireturn, 1) := by decide +kernel
theorem dL_orders_162 : decode cL_orders 162 = .ok (.aload_n 0, 1) := by decide +kernel
theorem dL_orders_163 : decode cL_orders 163 = .ok (.invokevirtual 73, 3) := by decide +kernel
theorem dL_orders_166 : decode cL_orders 166 = .ok (.pop, 1) := by decide +kernel
theorem dL_orders_167 : decode cL_orders 167 = .ok (.aload_n 0, 1) := by decide +kernel
theorem dL_orders_168 : decode cL_orders 168 = .ok (.bipush 43, 2) := by decide +kernel
theorem dL_orders_170 : decode cL_orders 170 = .ok (.invokevirtual 80, 3) := by decide +kernel
theorem dL_orders_173 : decode cL_orders 173 = .ok (.pop, 1) := by decide +kernel
theorem dL_orders_174 : decode cL_orders 174 = .ok (.aload_n 0, 1) := by decide +kernel
theorem dL_orders_175 : decode cL_orders 175 = .ok (.iload 4, 2) := by decide +kernel
theorem dL_orders_177 : decode cL_orders 177 = .ok (.ifCond .ne 8, 3) := by decide +kernel
theorem dL_orders_180 : decode cL_orders 180 = .ok (.bipush 114, 2) := by decide +kernel
theorem dL_orders_182 : decode cL_orders 182 = .ok (.goto 5, 3) := by decide +kernel
theorem dL_orders_185 : decode cL_orders 185 = .ok (.bipush 99, 2) := by decide +kernel
theorem dL_orders_187 : decode cL_orders 187 = .ok (.invokevirtual 80, 3) := by decide +kernel
theorem dL_orders_190 : decode cL_orders 190 = .ok (.pop, 1) := by decide +kernel
theorem dL_orders_191 : decode cL_orders 191 = .ok (.aload_n 0, 1) := by decide +kernel
theorem dL_orders_192 : decode cL_orders 192 = .ok (.bipush 48, 2) := by decide +kernel
theorem dL_orders_194 : decode cL_orders 194 = .ok (.invokevirtual 80, 3) := by decide +kernel
theorem dL_orders_197 : decode cL_orders 197 = .ok (.pop, 1) := by decide +kernel
theorem dL_orders_198 : decode cL_orders 198 = .ok (.aload_n 0, 1) := by decide +kernel
theorem dL_orders_199 : decode cL_orders 199 = .ok (.bipush 32, 2) := by decide +kernel
theorem dL_orders_201 : decode cL_orders 201 = .ok (.invokevirtual 80, 3) := by decide +kernel
theorem dL_orders_204 : decode cL_orders 204 = .ok (.pop, 1) := by decide +kernel
theorem dL_orders_205 : decode cL_orders 205 = .ok (.aload_n 0, 1) := by decide +kernel
theorem dL_orders_206 : decode cL_orders 206 = .ok (.bipush 43, 2) := by decide +kernel
theorem dL_orders_208 : decode cL_orders 208 = .ok (.invokevirtual 80, 3) := by decide +kernel
theorem dL_orders_211 : decode cL_orders 211 = .ok (.pop, 1) := by decide +kernel
theorem dL_orders_212 : decode cL_orders 212 = .ok (.aload_n 0, 1) := by decide +kernel
theorem dL_orders_213 : decode cL_orders 213 = .ok (.iload 4, 2) := by decide +kernel
theorem dL_orders_215 : decode cL_orders 215 = .ok (.ifCond .ne 8, 3) := by decide +kernel
theorem dL_orders_218 : decode cL_orders 218 = .ok (.bipush 114, 2) := by decide +kernel
theorem dL_orders_220 : decode cL_orders 220 = .ok (.goto 5, 3) := by decide +kernel
theorem dL_orders_223 : decode cL_orders 223 = .ok (.bipush 99, 2) := by decide +kernel
theorem dL_orders_225 : decode cL_orders 225 = .ok (.invokevirtual 80, 3) := by decide +kernel
theorem dL_orders_228 : decode cL_orders 228 = .ok (.pop, 1) := by decide +kernel
theorem dL_orders_229 : decode cL_orders 229 = .ok (.aload_n 0, 1) := by decide +kernel
theorem dL_orders_230 : decode cL_orders 230 = .ok (.bipush 57, 2) := by decide +kernel
theorem dL_orders_232 : decode cL_orders 232 = .ok (.invokevirtual 80, 3) := by decide +kernel
theorem dL_orders_235 : decode cL_orders 235 = .ok (.pop, 1) := by decide +kernel
theorem dL_orders_236 : decode cL_orders 236 = .ok (.aload_n 0, 1) := by decide +kernel
theorem dL_orders_237 : decode cL_orders 237 = .ok (.bipush 57, 2) := by decide +kernel
theorem dL_orders_239 : decode cL_orders 239 = .ok (.invokevirtual 80, 3) := by decide +kernel
theorem dL_orders_242 : decode cL_orders 242 = .ok (.istore 8, 2) := by decide +kernel
theorem dL_orders_244 : decode cL_orders 244 = .ok (.iload 5, 2) := by decide +kernel
theorem dL_orders_246 : decode cL_orders 246 = .ok (.iload 4, 2) := by decide +kernel
theorem dL_orders_248 : decode cL_orders 248 = .ok (.ifCond .ne 8, 3) := by decide +kernel
theorem dL_orders_251 : decode cL_orders 251 = .ok (.bipush 12, 2) := by decide +kernel
theorem dL_orders_253 : decode cL_orders 253 = .ok (.goto 5, 3) := by decide +kernel
theorem dL_orders_256 : decode cL_orders 256 = .ok (.bipush 8, 2) := by decide +kernel
theorem dL_orders_258 : decode cL_orders 258 = .ok (.if_icmp .eq 15, 3) := by decide +kernel
theorem dL_orders_261 : decode cL_orders 261 = .ok (.iload 7, 2) := by decide +kernel
theorem dL_orders_263 : decode cL_orders 263 = .ok (.ifCond .eq 14, 3) := by decide +kernel
theorem dL_orders_266 : decode cL_orders 266 = .ok (.iload 6, 2) := by decide +kernel
theorem dL_orders_268 : decode cL_orders 268 = .ok (.bipush 60, 2) := by decide +kernel
theorem dL_orders_270 : decode cL_orders 270 = .ok (.if_icmp .ne 7, 3) := by decide +kernel
theorem dL_orders_273 : decode cL_orders 273 = .ok (.iconst 0, 1) := by decide +kernel
theorem dL_orders_274 : decode cL_orders 274 = .ok (.goto 4, 3) := by decide +kernel
theorem dL_orders_277 : decode cL_orders 277 = .ok (.iconst 1, 1) := by decide +kernel
theorem dL_orders_278 : decode cL_orders 278 = .ok (.istore 10, 2) := by decide +kernel
theorem dL_orders_280 : decode cL_orders 280 = .ok (.aload_n 0, 1) := by decide +kernel
theorem dL_orders_281 : decode cL_orders 281 = .ok (.iload_n 1, 1) := by decide +kernel
theorem dL_orders_282 : decode cL_orders 282 = .ok (.invokevirtual 77, 3) := by decide +kernel
theorem dL_orders_285 : decode cL_orders 285 = .ok (.iload 10, 2) := by decide +kernel
theorem dL_orders_287 : decode cL_orders 287 = .ok (.if_icmp .ne 18, 3) := by decide +kernel
theorem dL_orders_290 : decode cL_orders 290 = .ok (.aload_n 0, 1) := by decide +kernel
theorem dL_orders_291 : decode cL_orders 291 = .ok (.iconst 0, 1) := by decide +kernel
theorem dL_orders_292 : decode cL_orders 292 = .ok (.iload 4, 2) := by decide +kernel
theorem dL_orders_294 : decode cL_orders 294 = .ok (.invokevirtual 9, 3) := by decide +kernel
theorem dL_orders_297 : decode cL_orders 297 = .ok (.iload 5, 2) := by decide +kernel
theorem dL_orders_299 : decode cL_orders 299 = .ok (.iload 10, 2) := by decide +kernel
theorem dL_orders_301 : decode cL_orders 301 = .ok (.iadd, 1) := by decide +kernel
theorem dL_orders_302 : decode cL_orders 302 = .ok (.if_icmp .eq 5, 3) := by decide +kernel
theorem dL_orders_305 : decode cL_orders 305 = .ok (.iconst 0, 1) := by decide +kernel
theorem dL_orders_306 : decode cL_orders 306 = .ok (.ireturn, 1) := by decide +kernel
theorem dL_orders_307 : decode cL_orders 307 = .ok (.aload_n 0, 1) := by decide +kernel
theorem dL_orders_308 : decode cL_orders 308 = .ok (.bipush 57, 2) := by decide +kernel
theorem dL_orders_310 : decode cL_orders 310 = .ok (.invokevirtual 80, 3) := by decide +kernel
theorem dL_orders_313 : decode cL_orders 313 = .ok (.pop, 1) := by decide +kernel
theorem dL_orders_314 : decode cL_orders 314 = .ok (.aload_n 0, 1) := by decide +kernel
theorem dL_orders_315 : decode cL_orders 315 = .ok (.iload_n 1, 1) := by decide +kernel
theorem dL_orders_316 : decode cL_orders 316 = .ok (.invokevirtual 77, 3) := by decide +kernel
theorem dL_orders_319 : decode cL_orders 319 = .ok (.bipush (-100), 2) := by decide +kernel
theorem dL_orders_321 : decode cL_orders 321 = .ok (.iload 8, 2) := by decide +kernel
theorem dL_orders_323 : decode cL_orders 323 = .ok (.isub, 1) := by decide +kernel
theorem dL_orders_324 : decode cL_orders 324 = .ok (.if_icmp .ne 36, 3) := by decide +kernel
theorem dL_orders_327 : decode cL_orders 327 = .ok (.aload_n 0, 1) := by decide +kernel
theorem dL_orders_328 : decode cL_orders 328 = .ok (.invokevirtual 84, 3) := by decide +kernel
theorem dL_orders_331 : decode cL_orders 331 = .ok (.ifCond .lt 29, 3) := by decide +kernel
theorem dL_orders_334 : decode cL_orders 334 = .ok (.aload_n 0, 1) := by decide +kernel
theorem dL_orders_335 : decode cL_orders 335 = .ok (.iconst 0, 1) := by decide +kernel
theorem dL_orders_336 : decode cL_orders 336 = .ok (.iload 4, 2) := by decide +kernel
theorem dL_orders_338 : decode cL_orders 338 = .ok (.invokevirtual 9, 3) := by decide +kernel
theorem dL_orders_341 : decode cL_orders 341 = .ok (.iload 5, 2) := by decide +kernel
theorem dL_orders_343 : decode cL_orders 343 = .ok (.if_icmp .ne 17, 3) := by decide +kernel
theorem dL_orders_346 : decode cL_orders 346 = .ok (.aload_n 0, 1) := by decide +kernel
theorem dL_orders_347 : decode cL_orders 347 = .ok (.iconst 0, 1) := by decide +kernel
theorem dL_orders_348 : decode cL_orders 348 = .ok (.invokevirtual 22, 3) := by decide +kernel
theorem dL_orders_351 : decode cL_orders 351 = .ok (.iload 6, 2) := by decide +kernel
theorem dL_orders_353 : decode cL_orders 353 = .ok (.if_icmp .ne 7, 3) := by decide +kernel
theorem dL_orders_356 : decode cL_orders 356 = .ok (.iconst 1, 1) := by decide +kernel
theorem dL_orders_357 : decode cL_orders 357 = .ok (.goto 4, 3) := by decide +kernel
theorem dL_orders_360 : decode cL_orders 360 = .ok (.iconst 0, 1) := by decide +kernel
theorem dL_orders_361 : decode cL_orders 361 = .ok (.ireturn, 1) := by decide +kernel
theorem dL_errors_0 : decode cL_errors 0 = .ok (.aload_n 0, 1) := by decide +kernel
theorem dL_errors_1 : decode cL_errors 1 = .ok (.iconst 0, 1) := by decide +kernel
theorem dL_errors_2 : decode cL_errors 2 = .ok (.invokevirtual 22, 3) := by decide +kernel
theorem dL_errors_5 : decode cL_errors 5 = .ok (.istore_n 1, 1) := by decide +kernel
theorem dL_errors_6 : decode cL_errors 6 = .ok (.aload_n 0, 1) := by decide +kernel
theorem dL_errors_7 : decode cL_errors 7 = .ok (.iconst 4, 1) := by decide +kernel
theorem dL_errors_8 : decode cL_errors 8 = .ok (.iconst 0, 1) := by decide +kernel
theorem dL_errors_9 : decode cL_errors 9 = .ok (.iconst 0, 1) := by decide +kernel
theorem dL_errors_10 : decode cL_errors 10 = .ok (.invokevirtual 57, 3) := by decide +kernel
theorem dL_errors_13 : decode cL_errors 13 = .ok (.iconst (-1), 1) := by decide +kernel
theorem dL_errors_14 : decode cL_errors 14 = .ok (.if_icmp .ne 151, 3) := by decide +kernel
theorem dL_errors_17 : decode cL_errors 17 = .ok (.aload_n 0, 1) := by decide +kernel
theorem dL_errors_18 : decode cL_errors 18 = .ok (.iconst 0, 1) := by decide +kernel
theorem dL_errors_19 : decode cL_errors 19 = .ok (.iconst 2, 1) := by decide +kernel
theorem dL_errors_20 : decode cL_errors 20 = .ok (.iconst 0, 1) := by decide +kernel
theorem dL_errors_21 : decode cL_errors 21 = .ok (.invokevirtual 57, 3) := by decide +kernel
theorem dL_errors_24 : decode cL_errors 24 = .ok (.iconst (-1), 1) := by decide +kernel
theorem dL_errors_25 : decode cL_errors 25 = .ok (.if_icmp .ne 140, 3) := by decide +kernel
theorem dL_errors_28 : decode cL_errors 28 = .ok (.aload_n 0, 1) := by decide +kernel
theorem dL_errors_29 : decode cL_errors 29 = .ok (.iconst 0, 1) := by decide +kernel
theorem dL_errors_30 : decode cL_errors 30 = .ok (.iconst 0, 1) := by decide +kernel
theorem dL_errors_31 : decode cL_errors 31 = .ok (.iconst (-1), 1) := by decide +kernel
theorem dL_errors_32 : decode cL_errors 32 = .ok (.invokevirtual 57, 3) := by decide +kernel
theorem dL_errors_35 : decode cL_errors 35 = .ok (.bipush (-2), 2) := by decide +kernel
theorem dL_errors_37 : decode cL_errors 37 = .ok (.if_icmp .ne 128, 3) := by decide +kernel
theorem dL_errors_40 : decode cL_errors 40 = .ok (.aload_n 0, 1) := by decide +kernel
theorem dL_errors_41 : decode cL_errors 41 = .ok (.iconst (-1), 1) := by decide +kernel
theorem dL_errors_42 : decode cL_errors 42 = .ok (.iconst 0, 1) := by decide +kernel
theorem dL_errors_43 : decode cL_errors 43 = .ok (.iconst 0, 1) := by decide +kernel
theorem dL_errors_44 : decode cL_errors 44 = .ok (.invokevirtual 60, 3) := by decide +kernel
theorem dL_errors_47 : decode cL_errors 47 = .ok (.iconst (-1), 1) := by decide +kernel
theorem dL_errors_48 : decode cL_errors 48 = .ok (.if_icmp .ne 117, 3) := by decide +kernel
theorem dL_errors_51 : decode cL_errors 51 = .ok (.aload_n 0, 1) := by decide +kernel
theorem dL_errors_52 : decode cL_errors 52 = .ok (.iconst 0, 1) := by decide +kernel
theorem dL_errors_53 : decode cL_errors 53 = .ok (.iconst 2, 1) := by decide +kernel
theorem dL_errors_54 : decode cL_errors 54 = .ok (.iconst 0, 1) := by decide +kernel
theorem dL_errors_55 : decode cL_errors 55 = .ok (.invokevirtual 60, 3) := by decide +kernel
theorem dL_errors_58 : decode cL_errors 58 = .ok (.iconst (-1), 1) := by decide +kernel
theorem dL_errors_59 : decode cL_errors 59 = .ok (.if_icmp .ne 106, 3) := by decide +kernel
theorem dL_errors_62 : decode cL_errors 62 = .ok (.aload_n 0, 1) := by decide +kernel
theorem dL_errors_63 : decode cL_errors 63 = .ok (.iconst 4, 1) := by decide +kernel
theorem dL_errors_64 : decode cL_errors 64 = .ok (.iconst 0, 1) := by decide +kernel
theorem dL_errors_65 : decode cL_errors 65 = .ok (.iconst 0, 1) := by decide +kernel
theorem dL_errors_66 : decode cL_errors 66 = .ok (.iconst 0, 1) := by decide +kernel
theorem dL_errors_67 : decode cL_errors 67 = .ok (.invokevirtual 63, 3) := by decide +kernel
theorem dL_errors_70 : decode cL_errors 70 = .ok (.iconst (-1), 1) := by decide +kernel
theorem dL_errors_71 : decode cL_errors 71 = .ok (.if_icmp .ne 94, 3) := by decide +kernel
theorem dL_errors_74 : decode cL_errors 74 = .ok (.aload_n 0, 1) := by decide +kernel
theorem dL_errors_75 : decode cL_errors 75 = .ok (.iconst 0, 1) := by decide +kernel
theorem dL_errors_76 : decode cL_errors 76 = .ok (.iconst (-1), 1) := by decide +kernel
theorem dL_errors_77 : decode cL_errors 77 = .ok (.iconst 0, 1) := by decide +kernel
theorem dL_errors_78 : decode cL_errors 78 = .ok (.iconst 0, 1) := by decide +kernel
theorem dL_errors_79 : decode cL_errors 79 = .ok (.invokevirtual 63, 3) := by decide +kernel
theorem dL_errors_82 : decode cL_errors 82 = .ok (.iconst (-1), 1) := by decide +kernel
theorem dL_errors_83 : decode cL_errors 83 = .ok (.if_icmp .ne 82, 3) := by decide +kernel
theorem dL_errors_86 : decode cL_errors 86 = .ok (.aload_n 0, 1) := by decide +kernel
theorem dL_errors_87 : decode cL_errors 87 = .ok (.iload_n 1, 1) := by decide +kernel
theorem dL_errors_88 : decode cL_errors 88 = .ok (.invokevirtual 67, 3) := by decide +kernel
theorem dL_errors_91 : decode cL_errors 91 = .ok (.iconst (-1), 1) := by decide +kernel
theorem dL_errors_92 : decode cL_errors 92 = .ok (.if_icmp .ne 73, 3) := by decide +kernel
theorem dL_errors_95 : decode cL_errors 95 = .ok (.aload_n 0, 1) := by decide +kernel
theorem dL_errors_96 : decode cL_errors 96 = .ok (.iconst (-1), 1) := by decide +kernel
theorem dL_errors_97 : decode cL_errors 97 = .ok (.invokevirtual 70, 3) := by decide +kernel
theorem dL_errors_100 : decode cL_errors 100 = .ok (.iconst (-1), 1) := by decide +kernel
theorem dL_errors_101 : decode cL_errors 101 = .ok (.if_icmp .ne 64, 3) := by decide +kernel
theorem dL_errors_104 : decode cL_errors 104 = .ok (.aload_n 0, 1) := by decide +kernel
theorem dL_errors_105 : decode cL_errors 105 = .ok (.iconst 4, 1) := by decide +kernel
theorem dL_errors_106 : decode cL_errors 106 = .ok (.iconst 1, 1) := by decide +kernel
theorem dL_errors_107 : decode cL_errors 107 = .ok (.invokevirtual 87, 3) := by decide +kernel
theorem dL_errors_110 : decode cL_errors 110 = .ok (.iconst (-1), 1) := by decide +kernel
theorem dL_errors_111 : decode cL_errors 111 = .ok (.if_icmp .ne 54, 3) := by decide +kernel
theorem dL_errors_114 : decode cL_errors 114 = .ok (.aload_n 0, 1) := by decide +kernel
theorem dL_errors_115 : decode cL_errors 115 = .ok (.bipush (-2), 2) := by decide +kernel
theorem dL_errors_117 : decode cL_errors 117 = .ok (.iconst 1, 1) := by decide +kernel
theorem dL_errors_118 : decode cL_errors 118 = .ok (.invokevirtual 87, 3) := by decide +kernel
theorem dL_errors_121 : decode cL_errors 121 = .ok (.iconst (-1), 1) := by decide +kernel
theorem dL_errors_122 : decode cL_errors 122 = .ok (.if_icmp .ne 43, 3) := by decide +kernel
theorem dL_errors_125 : decode cL_errors 125 = .ok (.aload_n 0, 1) := by decide +kernel
theorem dL_errors_126 : decode cL_errors 126 = .ok (.iload_n 1, 1) := by decide +kernel
theorem dL_errors_127 : decode cL_errors 127 = .ok (.iconst 0, 1) := by decide +kernel
theorem dL_errors_128 : decode cL_errors 128 = .ok (.invokevirtual 19, 3) := by decide +kernel
theorem dL_errors_131 : decode cL_errors 131 = .ok (.iconst (-1), 1) := by decide +kernel
theorem dL_errors_132 : decode cL_errors 132 = .ok (.if_icmp .ne 33, 3) := by decide +kernel
theorem dL_errors_135 : decode cL_errors 135 = .ok (.aload_n 0, 1) := by decide +kernel
theorem dL_errors_136 : decode cL_errors 136 = .ok (.iconst 0, 1) := by decide +kernel
theorem dL_errors_137 : decode cL_errors 137 = .ok (.iload_n 1, 1) := by decide +kernel
theorem dL_errors_138 : decode cL_errors 138 = .ok (.invokevirtual 41, 3) := by decide +kernel
theorem dL_errors_141 : decode cL_errors 141 = .ok (.iconst (-1), 1) := by decide +kernel
theorem dL_errors_142 : decode cL_errors 142 = .ok (.if_icmp .ne 23, 3) := by decide +kernel
theorem dL_errors_145 : decode cL_errors 145 = .ok (.aload_n 0, 1) := by decide +kernel
theorem dL_errors_146 : decode cL_errors 146 = .ok (.aload_n 0, 1) := by decide +kernel
theorem dL_errors_147 : decode cL_errors 147 = .ok (.iconst 0, 1) := by decide +kernel
theorem dL_errors_148 : decode cL_errors 148 = .ok (.iconst 0, 1) := by decide +kernel
theorem dL_errors_149 : decode cL_errors 149 = .ok (.invokevirtual 9, 3) := by decide +kernel
theorem dL_errors_152 : decode cL_errors 152 = .ok (.iconst 0, 1) := by decide +kernel
theorem dL_errors_153 : decode cL_errors 153 = .ok (.iconst 0, 1) := by decide +kernel
theorem dL_errors_154 : decode cL_errors 154 = .ok (.invokevirtual 26, 3) := by decide +kernel
theorem dL_errors_157 : decode cL_errors 157 = .ok (.iconst (-1), 1) := by decide +kernel
theorem dL_errors_158 : decode cL_errors 158 = .ok (.if_icmp .ne 7, 3) := by decide +kernel
theorem dL_errors_161 : decode cL_errors 161 = .ok (.iconst 1, 1) := by decide +kernel
theorem dL_errors_162 : decode cL_errors 162 = .ok (.goto 4, 3) := by decide +kernel
theorem dL_errors_165 : decode cL_errors 165 = .ok (.iconst 0, 1) := by decide +kernel
theorem dL_errors_166 : decode cL_errors 166 = .ok (.ireturn, 1) := by decide +kernel
theorem dL_law_0 : decode cL_law 0 = .ok (.new 10, 3) := by decide +kernel
theorem dL_law_3 : decode cL_law 3 = .ok (.dup, 1) := by decide +kernel
theorem dL_law_4 : decode cL_law 4 = .ok (.invokespecial 91, 3) := by decide +kernel
theorem dL_law_7 : decode cL_law 7 = .ok (.astore_n 1, 1) := by decide +kernel
theorem dL_law_8 : decode cL_law 8 = .ok (.iconst 0, 1) := by decide +kernel
theorem dL_law_9 : decode cL_law 9 = .ok (.istore_n 2, 1) := by decide +kernel
theorem dL_law_10 : decode cL_law 10 = .ok (.iload_n 2, 1) := by decide +kernel
theorem dL_law_11 : decode cL_law 11 = .ok (.bipush 40, 2) := by decide +kernel
theorem dL_law_13 : decode cL_law 13 = .ok (.if_icmp .ge 534, 3) := by decide +kernel
theorem dL_law_16 : decode cL_law 16 = .ok (.aload_n 0, 1) := by decide +kernel
theorem dL_law_17 : decode cL_law 17 = .ok (.iconst 2, 1) := by decide +kernel
theorem dL_law_18 : decode cL_law 18 = .ok (.iload_n 2, 1) := by decide +kernel
theorem dL_law_19 : decode cL_law 19 = .ok (.imul, 1) := by decide +kernel
theorem dL_law_20 : decode cL_law 20 = .ok (.invokestatic 92, 3) := by decide +kernel
theorem dL_law_23 : decode cL_law 23 = .ok (.istore_n 3, 1) := by decide +kernel
theorem dL_law_24 : decode cL_law 24 = .ok (.aload_n 0, 1) := by decide +kernel
theorem dL_law_25 : decode cL_law 25 = .ok (.iconst 2, 1) := by decide +kernel
theorem dL_law_26 : decode cL_law 26 = .ok (.iload_n 2, 1) := by decide +kernel
theorem dL_law_27 : decode cL_law 27 = .ok (.imul, 1) := by decide +kernel
theorem dL_law_28 : decode cL_law 28 = .ok (.iconst 1, 1) := by decide +kernel
theorem dL_law_29 : decode cL_law 29 = .ok (.iadd, 1) := by decide +kernel
theorem dL_law_30 : decode cL_law 30 = .ok (.invokestatic 92, 3) := by decide +kernel
theorem dL_law_33 : decode cL_law 33 = .ok (.istore 4, 2) := by decide +kernel
theorem dL_law_35 : decode cL_law 35 = .ok (.iload_n 2, 1) := by decide +kernel
theorem dL_law_36 : decode cL_law 36 = .ok (.iconst 4, 1) := by decide +kernel
theorem dL_law_37 : decode cL_law 37 = .ok (.if_icmp .ge 7, 3) := by decide +kernel
theorem dL_law_40 : decode cL_law 40 = .ok (.iconst 0, 1) := by decide +kernel
theorem dL_law_41 : decode cL_law 41 = .ok (.goto 9, 3) := by decide +kernel
theorem dL_law_44 : decode cL_law 44 = .ok (.iload_n 3, 1) := by decide +kernel
theorem dL_law_45 : decode cL_law 45 = .ok (.bipush 15, 2) := by decide +kernel
theorem dL_law_47 : decode cL_law 47 = .ok (.invokestatic 54, 3) := by decide +kernel
theorem dL_law_50 : decode cL_law 50 = .ok (.istore 5, 2) := by decide +kernel
theorem dL_law_52 : decode cL_law 52 = .ok (.iload_n 3, 1) := by decide +kernel
theorem dL_law_53 : decode cL_law 53 = .ok (.iconst 4, 1) := by decide +kernel
theorem dL_law_54 : decode cL_law 54 = .ok (.ishr, 1) := by decide +kernel
theorem dL_law_55 : decode cL_law 55 = .ok (.istore_n 3, 1) := by decide +kernel
theorem dL_law_56 : decode cL_law 56 = .ok (.iload 4, 2) := by decide +kernel
theorem dL_law_58 : decode cL_law 58 = .ok (.iconst 3, 1) := by decide +kernel
theorem dL_law_59 : decode cL_law 59 = .ok (.invokestatic 54, 3) := by decide +kernel
theorem dL_law_62 : decode cL_law 62 = .ok (.istore 6, 2) := by decide +kernel
theorem dL_law_64 : decode cL_law 64 = .ok (.iload_n 2, 1) := by decide +kernel
theorem dL_law_65 : decode cL_law 65 = .ok (.iconst 4, 1) := by decide +kernel
theorem dL_law_66 : decode cL_law 66 = .ok (.if_icmp .ge 9, 3) := by decide +kernel
theorem dL_law_69 : decode cL_law 69 = .ok (.iload_n 2, 1) := by decide +kernel
theorem dL_law_70 : decode cL_law 70 = .ok (.iconst 1, 1) := by decide +kernel
theorem dL_law_71 : decode cL_law 71 = .ok (.iand, 1) := by decide +kernel
theorem dL_law_72 : decode cL_law 72 = .ok (.goto 6, 3) := by decide +kernel
theorem dL_law_75 : decode cL_law 75 = .ok (.iload_n 3, 1) := by decide +kernel
theorem dL_law_76 : decode cL_law 76 = .ok (.iconst 1, 1) := by decide +kernel
theorem dL_law_77 : decode cL_law 77 = .ok (.iand, 1) := by decide +kernel
theorem dL_law_78 : decode cL_law 78 = .ok (.istore 7, 2) := by decide +kernel
theorem dL_law_80 : decode cL_law 80 = .ok (.iload 5, 2) := by decide +kernel
theorem dL_law_82 : decode cL_law 82 = .ok (.iconst 2, 1) := by decide +kernel
theorem dL_law_83 : decode cL_law 83 = .ok (.if_icmp .ge 37, 3) := by decide +kernel
theorem dL_law_86 : decode cL_law 86 = .ok (.aload_n 1, 1) := by decide +kernel
theorem dL_law_87 : decode cL_law 87 = .ok (.iconst 0, 1) := by decide +kernel
theorem dL_law_88 : decode cL_law 88 = .ok (.iload 7, 2) := by decide +kernel
theorem dL_law_90 : decode cL_law 90 = .ok (.invokevirtual 9, 3) := by decide +kernel
theorem dL_law_93 : decode cL_law 93 = .ok (.iconst 5, 1) := by decide +kernel
theorem dL_law_94 : decode cL_law 94 = .ok (.if_icmp .gt 18, 3) := by decide +kernel
theorem dL_law_97 : decode cL_law 97 = .ok (.aload_n 1, 1) := by decide +kernel
theorem dL_law_98 : decode cL_law 98 = .ok (.iload 6, 2) := by decide +kernel
theorem dL_law_100 : decode cL_law 100 = .ok (.iload 7, 2) := by decide +kernel
theorem dL_law_102 : decode cL_law 102 = .ok (.iload 4, 2) := by decide +kernel
theorem dL_law_104 : decode cL_law 104 = .ok (.iconst 3, 1) := by decide +kernel
theorem dL_law_105 : decode cL_law 105 = .ok (.ishr, 1) := by decide +kernel
theorem dL_law_106 : decode cL_law 106 = .ok (.invokestatic 95, 3) := by decide +kernel
theorem dL_law_109 : decode cL_law 109 = .ok (.ifCond .eq 7, 3) := by decide +kernel
theorem dL_law_112 : decode cL_law 112 = .ok (.iconst 1, 1) := by decide +kernel
theorem dL_law_113 : decode cL_law 113 = .ok (.goto 8, 3) := by decide +kernel
theorem dL_law_116 : decode cL_law 116 = .ok (.iconst 0, 1) := by decide +kernel
theorem dL_law_117 : decode cL_law 117 = .ok (.goto 4, 3) := by decide +kernel
theorem dL_law_120 : decode cL_law 120 = .ok (.iconst 1, 1) := by decide +kernel
theorem dL_law_121 : decode cL_law 121 = .ok (.istore 8, 2) := by decide +kernel
theorem dL_law_123 : decode cL_law 123 = .ok (.iload 5, 2) := by decide +kernel
theorem dL_law_125 : decode cL_law 125 = .ok (.iconst 2, 1) := by decide +kernel
theorem dL_law_126 : decode cL_law 126 = .ok (.if_icmp .eq 9, 3) := by decide +kernel
theorem dL_law_129 : decode cL_law 129 = .ok (.iload 5, 2) := by decide +kernel
theorem dL_law_131 : decode cL_law 131 = .ok (.iconst 3, 1) := by decide +kernel
theorem dL_law_132 : decode cL_law 132 = .ok (.if_icmp .ne 20, 3) := by decide +kernel
theorem dL_law_135 : decode cL_law 135 = .ok (.aload_n 1, 1) := by decide +kernel
theorem dL_law_136 : decode cL_law 136 = .ok (.iload 6, 2) := by decide +kernel
theorem dL_law_138 : decode cL_law 138 = .ok (.iload 7, 2) := by decide +kernel
theorem dL_law_140 : decode cL_law 140 = .ok (.iload 4, 2) := by decide +kernel
theorem dL_law_142 : decode cL_law 142 = .ok (.iconst 3, 1) := by decide +kernel
theorem dL_law_143 : decode cL_law 143 = .ok (.ishr, 1) := by decide +kernel
theorem dL_law_144 : decode cL_law 144 = .ok (.invokestatic 99, 3) := by decide +kernel
theorem dL_law_147 : decode cL_law 147 = .ok (.istore 8, 2) := by decide +kernel
theorem dL_law_149 : decode cL_law 149 = .ok (.goto 357, 3) := by decide +kernel
theorem dL_law_152 : decode cL_law 152 = .ok (.iload 5, 2) := by decide +kernel
theorem dL_law_154 : decode cL_law 154 = .ok (.iconst 3, 1) := by decide +kernel
theorem dL_law_155 : decode cL_law 155 = .ok (.if_icmp .le 26, 3) := by decide +kernel
theorem dL_law_158 : decode cL_law 158 = .ok (.iload 5, 2) := by decide +kernel
theorem dL_law_160 : decode cL_law 160 = .ok (.bipush 9, 2) := by decide +kernel
theorem dL_law_162 : decode cL_law 162 = .ok (.if_icmp .ge 19, 3) := by decide +kernel
theorem dL_law_165 : decode cL_law 165 = .ok (.aload_n 1, 1) := by decide +kernel
theorem dL_law_166 : decode cL_law 166 = .ok (.iload 6, 2) := by decide +kernel
theorem dL_law_168 : decode cL_law 168 = .ok (.iload_n 3, 1) := by decide +kernel
theorem dL_law_169 : decode cL_law 169 = .ok (.iload 4, 2) := by decide +kernel
theorem dL_law_171 : decode cL_law 171 = .ok (.iconst 3, 1) := by decide +kernel
theorem dL_law_172 : decode cL_law 172 = .ok (.ishr, 1) := by decide +kernel
theorem dL_law_173 : decode cL_law 173 = .ok (.invokestatic 102, 3) := by decide +kernel
theorem dL_law_176 : decode cL_law 176 = .ok (.istore 8, 2) := by decide +kernel
theorem dL_law_178 : decode cL_law 178 = .ok (.goto 328, 3) := by decide +kernel
theorem dL_law_181 : decode cL_law 181 = .ok (.iload 5, 2) := by decide +kernel
theorem dL_law_183 : decode cL_law 183 = .ok (.bipush 8, 2) := by decide +kernel
theorem dL_law_185 : decode cL_law 185 = .ok (.if_icmp .le 35, 3) := by decide +kernel
theorem dL_law_188 : decode cL_law 188 = .ok (.iload 5, 2) := by decide +kernel
theorem dL_law_190 : decode cL_law 190 = .ok (.bipush 12, 2) := by decide +kernel
theorem dL_law_192 : decode cL_law 192 = .ok (.if_icmp .ge 28, 3) := by decide +kernel
theorem dL_law_195 : decode cL_law 195 = .ok (.aload_n 1, 1) := by decide +kernel
theorem dL_law_196 : decode cL_law 196 = .ok (.iload_n 3, 1) := by decide +kernel
theorem dL_law_197 : decode cL_law 197 = .ok (.iconst 1, 1) := by decide +kernel
theorem dL_law_198 : decode cL_law 198 = .ok (.ishr, 1) := by decide +kernel
theorem dL_law_199 : decode cL_law 199 = .ok (.iload 4, 2) := by decide +kernel
theorem dL_law_201 : decode cL_law 201 = .ok (.bipush 8, 2) := by decide +kernel
theorem dL_law_203 : decode cL_law 203 = .ok (.iand, 1) := by decide +kernel
theorem dL_law_204 : decode cL_law 204 = .ok (.ifCond .ne 7, 3) := by decide +kernel
theorem dL_law_207 : decode cL_law 207 = .ok (.iconst 1, 1) := by decide +kernel
theorem dL_law_208 : decode cL_law 208 = .ok (.goto 4, 3) := by decide +kernel
theorem dL_law_211 : decode cL_law 211 = .ok (.iconst 0, 1) := by decide +kernel
theorem dL_law_212 : decode cL_law 212 = .ok (.invokestatic 105, 3) := by decide +kernel
theorem dL_law_215 : decode cL_law 215 = .ok (.istore 8, 2) := by decide +kernel
theorem dL_law_217 : decode cL_law 217 = .ok (.goto 289, 3) := by decide +kernel
theorem dL_law_220 : decode cL_law 220 = .ok (.iload 5, 2) := by decide +kernel
theorem dL_law_222 : decode cL_law 222 = .ok (.bipush 12, 2) := by decide +kernel
theorem dL_law_224 : decode cL_law 224 = .ok (.if_icmp .ne 89, 3) := by decide +kernel
theorem dL_law_227 : decode cL_law 227 = .ok (.iload 4, 2) := by decide +kernel
theorem dL_law_229 : decode cL_law 229 = .ok (.iconst 5, 1) := by decide +kernel
theorem dL_law_230 : decode cL_law 230 = .ok (.ishr, 1) := by decide +kernel
theorem dL_law_231 : decode cL_law 231 = .ok (.iconst 3, 1) := by decide +kernel
theorem dL_law_232 : decode cL_law 232 = .ok (.iand, 1) := by decide +kernel
theorem dL_law_233 : decode cL_law 233 = .ok (.ifCond .le 7, 3) := by decide +kernel
theorem dL_law_236 : decode cL_law 236 = .ok (.iconst 1, 1) := by decide +kernel
theorem dL_law_237 : decode cL_law 237 = .ok (.goto 4, 3) := by decide +kernel
theorem dL_law_240 : decode cL_law 240 = .ok (.iconst 0, 1) := by decide +kernel
theorem dL_law_241 : decode cL_law 241 = .ok (.istore 9, 2) := by decide +kernel
theorem dL_law_243 : decode cL_law 243 = .ok (.aload_n 1, 1) := by decide +kernel
theorem dL_law_244 : decode cL_law 244 = .ok (.iconst 5, 1) := by decide +kernel
theorem dL_law_245 : decode cL_law 245 = .ok (.invokevirtual 22, 3) := by decide +kernel
theorem dL_law_248 : decode cL_law 248 = .ok (.iconst 1, 1) := by decide +kernel
theorem dL_law_249 : decode cL_law 249 = .ok (.if_icmp .ne 7, 3) := by decide +kernel
theorem dL_law_252 : decode cL_law 252 = .ok (.iconst 1, 1) := by decide +kernel
theorem dL_law_253 : decode cL_law 253 = .ok (.goto 4, 3) := by decide +kernel
theorem dL_law_256 : decode cL_law 256 = .ok (.iconst 0, 1) := by decide +kernel
theorem dL_law_257 : decode cL_law 257 = .ok (.iload 9, 2) := by decide +kernel
theorem dL_law_259 : decode cL_law 259 = .ok (.if_icmp .ne 8, 3) := by decide +kernel
theorem dL_law_262 : decode cL_law 262 = .ok (.bipush (-4), 2) := by decide +kernel
theorem dL_law_264 : decode cL_law 264 = .ok (.goto 8, 3) := by decide +kernel
theorem dL_law_267 : decode cL_law 267 = .ok (.aload_n 1, 1) := by decide +kernel
theorem dL_law_268 : decode cL_law 268 = .ok (.iconst 1, 1) := by decide +kernel
theorem dL_law_269 : decode cL_law 269 = .ok (.invokevirtual 22, 3) := by decide +kernel
theorem dL_law_272 : decode cL_law 272 = .ok (.istore 10, 2) := by decide +kernel
theorem dL_law_274 : decode cL_law 274 = .ok (.aload_n 1, 1) := by decide +kernel
theorem dL_law_275 : decode cL_law 275 = .ok (.iload 9, 2) := by decide +kernel
theorem dL_law_277 : decode cL_law 277 = .ok (.invokevirtual 109, 3) := by decide +kernel
theorem dL_law_280 : decode cL_law 280 = .ok (.iload 10, 2) := by decide +kernel
theorem dL_law_282 : decode cL_law 282 = .ok (.if_icmp .ne 25, 3) := by decide +kernel
theorem dL_law_285 : decode cL_law 285 = .ok (.aload_n 1, 1) := by decide +kernel
theorem dL_law_286 : decode cL_law 286 = .ok (.iconst 5, 1) := by decide +kernel
theorem dL_law_287 : decode cL_law 287 = .ok (.invokevirtual 22, 3) := by decide +kernel
theorem dL_law_290 : decode cL_law 290 = .ok (.iload 9, 2) := by decide +kernel
theorem dL_law_292 : decode cL_law 292 = .ok (.ifCond .eq 7, 3) := by decide +kernel
theorem dL_law_295 : decode cL_law 295 = .ok (.iconst 1, 1) := by decide +kernel
theorem dL_law_296 : decode cL_law 296 = .ok (.goto 4, 3) := by decide +kernel
theorem dL_law_299 : decode cL_law 299 = .ok (.iconst 0, 1) := by decide +kernel
theorem dL_law_300 : decode cL_law 300 = .ok (.if_icmp .ne 7, 3) := by decide +kernel
theorem dL_law_303 : decode cL_law 303 = .ok (.iconst 1, 1) := by decide +kernel
theorem dL_law_304 : decode cL_law 304 = .ok (.goto 4, 3) := by decide +kernel
theorem dL_law_307 : decode cL_law 307 = .ok (.iconst 0, 1) := by decide +kernel
theorem dL_law_308 : decode cL_law 308 = .ok (.istore 8, 2) := by decide +kernel
theorem dL_law_310 : decode cL_law 310 = .ok (.goto 196, 3) := by decide +kernel
theorem dL_law_313 : decode cL_law 313 = .ok (.iload 5, 2) := by decide +kernel
theorem dL_law_315 : decode cL_law 315 = .ok (.bipush 13, 2) := by decide +kernel
theorem dL_law_317 : decode cL_law 317 = .ok (.if_icmp .ne 19, 3) := by decide +kernel
theorem dL_law_320 : decode cL_law 320 = .ok (.aload_n 1, 1) := by decide +kernel
theorem dL_law_321 : decode cL_law 321 = .ok (.iload 6, 2) := by decide +kernel
theorem dL_law_323 : decode cL_law 323 = .ok (.iload_n 3, 1) := by decide +kernel
theorem dL_law_324 : decode cL_law 324 = .ok (.iload 4, 2) := by decide +kernel
theorem dL_law_326 : decode cL_law 326 = .ok (.iconst 3, 1) := by decide +kernel
theorem dL_law_327 : decode cL_law 327 = .ok (.ishr, 1) := by decide +kernel
theorem dL_law_328 : decode cL_law 328 = .ok (.invokestatic 113, 3) := by decide +kernel
theorem dL_law_331 : decode cL_law 331 = .ok (.istore 8, 2) := by decide +kernel
theorem dL_law_333 : decode cL_law 333 = .ok (.goto 173, 3) := by decide +kernel
theorem dL_law_336 : decode cL_law 336 = .ok (.iload 5, 2) := by decide +kernel
theorem dL_law_338 : decode cL_law 338 = .ok (.bipush 14, 2) := by decide +kernel
theorem dL_law_340 : decode cL_law 340 = .ok (.if_icmp .ne 166, 3) := by decide +kernel
theorem dL_law_343 : decode cL_law 343 = .ok (.iload 4, 2) := by decide +kernel
theorem dL_law_345 : decode cL_law 345 = .ok (.iconst 5, 1) := by decide +kernel
theorem dL_law_346 : decode cL_law 346 = .ok (.ishr, 1) := by decide +kernel
theorem dL_law_347 : decode cL_law 347 = .ok (.iconst 5, 1) := by decide +kernel
theorem dL_law_348 : decode cL_law 348 = .ok (.invokestatic 54, 3) := by decide +kernel
theorem dL_law_351 : decode cL_law 351 = .ok (.iconst 1, 1) := by decide +kernel
theorem dL_law_352 : decode cL_law 352 = .ok (.isub, 1) := by decide +kernel
theorem dL_law_353 : decode cL_law 353 = .ok (.istore 9, 2) := by decide +kernel
theorem dL_law_355 : decode cL_law 355 = .ok (.iload 9, 2) := by decide +kernel
theorem dL_law_357 : decode cL_law 357 = .ok (.ifCond .ge 11, 3) := by decide +kernel
theorem dL_law_360 : decode cL_law 360 = .ok (.aload_n 1, 1) := by decide +kernel
theorem dL_law_361 : decode cL_law 361 = .ok (.iconst 1, 1) := by decide +kernel
theorem dL_law_362 : decode cL_law 362 = .ok (.invokevirtual 22, 3) := by decide +kernel
theorem dL_law_365 : decode cL_law 365 = .ok (.goto 10, 3) := by decide +kernel
theorem dL_law_368 : decode cL_law 368 = .ok (.aload_n 1, 1) := by decide +kernel
theorem dL_law_369 : decode cL_law 369 = .ok (.iload 9, 2) := by decide +kernel
theorem dL_law_371 : decode cL_law 371 = .ok (.iconst 0, 1) := by decide +kernel
theorem dL_law_372 : decode cL_law 372 = .ok (.invokevirtual 51, 3) := by decide +kernel
theorem dL_law_375 : decode cL_law 375 = .ok (.istore 10, 2) := by decide +kernel
theorem dL_law_377 : decode cL_law 377 = .ok (.iload 4, 2) := by decide +kernel
theorem dL_law_379 : decode cL_law 379 = .ok (.bipush 9, 2) := by decide +kernel
theorem dL_law_381 : decode cL_law 381 = .ok (.ishr, 1) := by decide +kernel
theorem dL_law_382 : decode cL_law 382 = .ok (.iconst 1, 1) := by decide +kernel
theorem dL_law_383 : decode cL_law 383 = .ok (.iand, 1) := by decide +kernel
theorem dL_law_384 : decode cL_law 384 = .ok (.iconst 1, 1) := by decide +kernel
theorem dL_law_385 : decode cL_law 385 = .ok (.if_icmp .ne 7, 3) := by decide +kernel
theorem dL_law_388 : decode cL_law 388 = .ok (.iconst 1, 1) := by decide +kernel
theorem dL_law_389 : decode cL_law 389 = .ok (.goto 4, 3) := by decide +kernel
theorem dL_law_392 : decode cL_law 392 = .ok (.iconst 0, 1) := by decide +kernel
theorem dL_law_393 : decode cL_law 393 = .ok (.istore 11, 2) := by decide +kernel
theorem dL_law_395 : decode cL_law 395 = .ok (.aload_n 1, 1) := by decide +kernel
theorem dL_law_396 : decode cL_law 396 = .ok (.iload 11, 2) := by decide +kernel
theorem dL_law_398 : decode cL_law 398 = .ok (.ifCond .eq 7, 3) := by decide +kernel
theorem dL_law_401 : decode cL_law 401 = .ok (.iconst 2, 1) := by decide +kernel
theorem dL_law_402 : decode cL_law 402 = .ok (.goto 4, 3) := by decide +kernel
theorem dL_law_405 : decode cL_law 405 = .ok (.iconst 3, 1) := by decide +kernel
theorem dL_law_406 : decode cL_law 406 = .ok (.invokevirtual 22, 3) := by decide +kernel
theorem dL_law_409 : decode cL_law 409 = .ok (.istore 12, 2) := by decide +kernel
theorem dL_law_411 : decode cL_law 411 = .ok (.aload_n 1, 1) := by decide +kernel
theorem dL_law_412 : decode cL_law 412 = .ok (.iload 9, 2) := by decide +kernel
theorem dL_law_414 : decode cL_law 414 = .ok (.iload 11, 2) := by decide +kernel
theorem dL_law_416 : decode cL_law 416 = .ok (.invokevirtual 87, 3) := by decide +kernel
theorem dL_law_419 : decode cL_law 419 = .ok (.istore 13, 2) := by decide +kernel
theorem dL_law_421 : decode cL_law 421 = .ok (.iload 10, 2) := by decide +kernel
theorem dL_law_423 : decode cL_law 423 = .ok (.ifCond .ne 18, 3) := by decide +kernel
theorem dL_law_426 : decode cL_law 426 = .ok (.iload 13, 2) := by decide +kernel
theorem dL_law_428 : decode cL_law 428 = .ok (.bipush (-4), 2) := by decide +kernel
theorem dL_law_430 : decode cL_law 430 = .ok (.if_icmp .ne 7, 3) := by decide +kernel
theorem dL_law_433 : decode cL_law 433 = .ok (.iconst 1, 1) := by decide +kernel
theorem dL_law_434 : decode cL_law 434 = .ok (.goto 70, 3) := by decide +kernel
theorem dL_law_437 : decode cL_law 437 = .ok (.iconst 0, 1) := by decide +kernel
theorem dL_law_438 : decode cL_law 438 = .ok (.goto 66, 3) := by decide +kernel
theorem dL_law_441 : decode cL_law 441 = .ok (.iload 13, 2) := by decide +kernel
theorem dL_law_443 : decode cL_law 443 = .ok (.iload 10, 2) := by decide +kernel
theorem dL_law_445 : decode cL_law 445 = .ok (.aload_n 1, 1) := by decide +kernel
theorem dL_law_446 : decode cL_law 446 = .ok (.iconst 4, 1) := by decide +kernel
theorem dL_law_447 : decode cL_law 447 = .ok (.invokevirtual 22, 3) := by decide +kernel
theorem dL_law_450 : decode cL_law 450 = .ok (.isub, 1) := by decide +kernel
theorem dL_law_451 : decode cL_law 451 = .ok (.if_icmp .lt 52, 3) := by decide +kernel
theorem dL_law_454 : decode cL_law 454 = .ok (.aload_n 1, 1) := by decide +kernel
theorem dL_law_455 : decode cL_law 455 = .ok (.iload 11, 2) := by decide +kernel
theorem dL_law_457 : decode cL_law 457 = .ok (.ifCond .eq 7, 3) := by decide +kernel
theorem dL_law_460 : decode cL_law 460 = .ok (.iconst 2, 1) := by decide +kernel
theorem dL_law_461 : decode cL_law 461 = .ok (.goto 4, 3) := by decide +kernel
theorem dL_law_464 : decode cL_law 464 = .ok (.iconst 3, 1) := by decide +kernel
theorem dL_law_465 : decode cL_law 465 = .ok (.invokevirtual 22, 3) := by decide +kernel
theorem dL_law_468 : decode cL_law 468 = .ok (.iload 12, 2) := by decide +kernel
theorem dL_law_470 : decode cL_law 470 = .ok (.iload 13, 2) := by decide +kernel
theorem dL_law_472 : decode cL_law 472 = .ok (.iadd, 1) := by decide +kernel
theorem dL_law_473 : decode cL_law 473 = .ok (.if_icmp .ne 30, 3) := by decide +kernel
theorem dL_law_476 : decode cL_law 476 = .ok (.iload 9, 2) := by decide +kernel
theorem dL_law_478 : decode cL_law 478 = .ok (.ifCond .ge 11, 3) := by decide +kernel
theorem dL_law_481 : decode cL_law 481 = .ok (.aload_n 1, 1) := by decide +kernel
theorem dL_law_482 : decode cL_law 482 = .ok (.iconst 1, 1) := by decide +kernel
theorem dL_law_483 : decode cL_law 483 = .ok (.invokevirtual 22, 3) := by decide +kernel
theorem dL_law_486 : decode cL_law 486 = .ok (.goto 10, 3) := by decide +kernel
theorem dL_law_489 : decode cL_law 489 = .ok (.aload_n 1, 1) := by decide +kernel
theorem dL_law_490 : decode cL_law 490 = .ok (.iload 9, 2) := by decide +kernel
theorem dL_law_492 : decode cL_law 492 = .ok (.iconst 0, 1) := by decide +kernel
theorem dL_law_493 : decode cL_law 493 = .ok (.invokevirtual 51, 3) := by decide +kernel
theorem dL_law_496 : decode cL_law 496 = .ok (.ifCond .ne 7, 3) := by decide +kernel
theorem dL_law_499 : decode cL_law 499 = .ok (.iconst 1, 1) := by decide +kernel
theorem dL_law_500 : decode cL_law 500 = .ok (.goto 4, 3) := by decide +kernel
theorem dL_law_503 : decode cL_law 503 = .ok (.iconst 0, 1) := by decide +kernel
theorem dL_law_504 : decode cL_law 504 = .ok (.istore 8, 2) := by decide +kernel
theorem dL_law_506 : decode cL_law 506 = .ok (.iload 8, 2) := by decide +kernel
theorem dL_law_508 : decode cL_law 508 = .ok (.ifCond .eq 31, 3) := by decide +kernel
theorem dL_law_511 : decode cL_law 511 = .ok (.aload_n 1, 1) := by decide +kernel
theorem dL_law_512 : decode cL_law 512 = .ok (.invokestatic 116, 3) := by decide +kernel
theorem dL_law_515 : decode cL_law 515 = .ok (.ifCond .eq 24, 3) := by decide +kernel
theorem dL_law_518 : decode cL_law 518 = .ok (.aload_n 1, 1) := by decide +kernel
theorem dL_law_519 : decode cL_law 519 = .ok (.invokestatic 120, 3) := by decide +kernel
theorem dL_law_522 : decode cL_law 522 = .ok (.ifCond .eq 17, 3) := by decide +kernel
theorem dL_law_525 : decode cL_law 525 = .ok (.iload_n 2, 1) := by decide +kernel
theorem dL_law_526 : decode cL_law 526 = .ok (.iconst 4, 1) := by decide +kernel
theorem dL_law_527 : decode cL_law 527 = .ok (.irem, 1) := by decide +kernel
theorem dL_law_528 : decode cL_law 528 = .ok (.iconst 3, 1) := by decide +kernel
theorem dL_law_529 : decode cL_law 529 = .ok (.if_icmp .ne 12, 3) := by decide +kernel
theorem dL_law_532 : decode cL_law 532 = .ok (.aload_n 1, 1) := by decide +kernel
theorem dL_law_533 : decode cL_law 533 = .ok (.invokestatic 123, 3) := by decide +kernel
theorem dL_law_536 : decode cL_law 536 = .ok (.ifCond .ne 5, 3) := by decide +kernel
theorem dL_law_539 : decode cL_law 539 = .ok (.iconst 0, 1) := by decide +kernel
theorem dL_law_540 : decode cL_law 540 = .ok (.ireturn, 1) := by decide +kernel
theorem dL_law_541 : decode cL_law 541 = .ok (.iinc 2 1, 3) := by decide +kernel
theorem dL_law_544 : decode cL_law 544 = .ok (.goto (-534), 3) := by decide +kernel
theorem dL_law_547 : decode cL_law 547 = .ok (.aload_n 1, 1) := by decide +kernel
theorem dL_law_548 : decode cL_law 548 = .ok (.invokestatic 126, 3) := by decide +kernel
theorem dL_law_551 : decode cL_law 551 = .ok (.ireturn, 1) := by decide +kernel
