theorem dL_holds_0 : decode cL_holds 0 = .ok (.aload_n 0, 1) := by decide +kernel
theorem dL_holds_1 : decode cL_holds 1 = .ok (.iconst 2, 1) := by decide +kernel
theorem dL_holds_2 : decode cL_holds 2 = .ok (.iconst 2, 1) := by decide +kernel
theorem dL_holds_3 : decode cL_holds 3 = .ok (.iconst 0, 1) := by decide +kernel
theorem dL_holds_4 : decode cL_holds 4 = .ok (.iconst 0, 1) := by decide +kernel
theorem dL_holds_5 : decode cL_holds 5 = .ok (.invokestatic 164, 3) := by decide +kernel
theorem dL_holds_8 : decode cL_holds 8 = .ok (.istore_n 2, 1) := by decide +kernel
theorem dL_holds_9 : decode cL_holds 9 = .ok (.iconst 0, 1) := by decide +kernel
theorem dL_holds_10 : decode cL_holds 10 = .ok (.istore_n 3, 1) := by decide +kernel
theorem dL_holds_11 : decode cL_holds 11 = .ok (.iconst 0, 1) := by decide +kernel
theorem dL_holds_12 : decode cL_holds 12 = .ok (.istore 4, 2) := by decide +kernel
theorem dL_holds_14 : decode cL_holds 14 = .ok (.iconst 0, 1) := by decide +kernel
theorem dL_holds_15 : decode cL_holds 15 = .ok (.istore 5, 2) := by decide +kernel
theorem dL_holds_17 : decode cL_holds 17 = .ok (.iconst 0, 1) := by decide +kernel
theorem dL_holds_18 : decode cL_holds 18 = .ok (.istore 6, 2) := by decide +kernel
theorem dL_holds_20 : decode cL_holds 20 = .ok (.iconst 0, 1) := by decide +kernel
theorem dL_holds_21 : decode cL_holds 21 = .ok (.istore 7, 2) := by decide +kernel
theorem dL_holds_23 : decode cL_holds 23 = .ok (.iconst (-1), 1) := by decide +kernel
theorem dL_holds_24 : decode cL_holds 24 = .ok (.istore 8, 2) := by decide +kernel
theorem dL_holds_26 : decode cL_holds 26 = .ok (.iconst 0, 1) := by decide +kernel
theorem dL_holds_27 : decode cL_holds 27 = .ok (.istore 9, 2) := by decide +kernel
theorem dL_holds_29 : decode cL_holds 29 = .ok (.iload_n 2, 1) := by decide +kernel
theorem dL_holds_30 : decode cL_holds 30 = .ok (.bipush 16, 2) := by decide +kernel
theorem dL_holds_32 : decode cL_holds 32 = .ok (.if_icmp .gt 7, 3) := by decide +kernel
theorem dL_holds_35 : decode cL_holds 35 = .ok (.iconst 1, 1) := by decide +kernel
theorem dL_holds_36 : decode cL_holds 36 = .ok (.goto 4, 3) := by decide +kernel
theorem dL_holds_39 : decode cL_holds 39 = .ok (.iconst 0, 1) := by decide +kernel
theorem dL_holds_40 : decode cL_holds 40 = .ok (.istore 10, 2) := by decide +kernel
theorem dL_holds_42 : decode cL_holds 42 = .ok (.iconst 0, 1) := by decide +kernel
theorem dL_holds_43 : decode cL_holds 43 = .ok (.istore 11, 2) := by decide +kernel
theorem dL_holds_45 : decode cL_holds 45 = .ok (.iload 11, 2) := by decide +kernel
theorem dL_holds_47 : decode cL_holds 47 = .ok (.sipush 256, 3) := by decide +kernel
theorem dL_holds_50 : decode cL_holds 50 = .ok (.if_icmp .ge 225, 3) := by decide +kernel
theorem dL_holds_53 : decode cL_holds 53 = .ok (.iload 10, 2) := by decide +kernel
theorem dL_holds_55 : decode cL_holds 55 = .ok (.ifCond .eq 220, 3) := by decide +kernel
theorem dL_holds_58 : decode cL_holds 58 = .ok (.aload_n 0, 1) := by decide +kernel
theorem dL_holds_59 : decode cL_holds 59 = .ok (.iconst 3, 1) := by decide +kernel
theorem dL_holds_60 : decode cL_holds 60 = .ok (.iload 11, 2) := by decide +kernel
theorem dL_holds_62 : decode cL_holds 62 = .ok (.iconst 0, 1) := by decide +kernel
theorem dL_holds_63 : decode cL_holds 63 = .ok (.iconst 0, 1) := by decide +kernel
theorem dL_holds_64 : decode cL_holds 64 = .ok (.invokestatic 164, 3) := by decide +kernel
theorem dL_holds_67 : decode cL_holds 67 = .ok (.istore 12, 2) := by decide +kernel
theorem dL_holds_69 : decode cL_holds 69 = .ok (.aload_n 0, 1) := by decide +kernel
theorem dL_holds_70 : decode cL_holds 70 = .ok (.iconst 3, 1) := by decide +kernel
theorem dL_holds_71 : decode cL_holds 71 = .ok (.iload 11, 2) := by decide +kernel
theorem dL_holds_73 : decode cL_holds 73 = .ok (.iconst 1, 1) := by decide +kernel
theorem dL_holds_74 : decode cL_holds 74 = .ok (.iconst 0, 1) := by decide +kernel
theorem dL_holds_75 : decode cL_holds 75 = .ok (.invokestatic 164, 3) := by decide +kernel
theorem dL_holds_78 : decode cL_holds 78 = .ok (.istore 13, 2) := by decide +kernel
theorem dL_holds_80 : decode cL_holds 80 = .ok (.aload_n 0, 1) := by decide +kernel
theorem dL_holds_81 : decode cL_holds 81 = .ok (.iconst 3, 1) := by decide +kernel
theorem dL_holds_82 : decode cL_holds 82 = .ok (.iload 11, 2) := by decide +kernel
theorem dL_holds_84 : decode cL_holds 84 = .ok (.iconst 2, 1) := by decide +kernel
theorem dL_holds_85 : decode cL_holds 85 = .ok (.iconst 0, 1) := by decide +kernel
theorem dL_holds_86 : decode cL_holds 86 = .ok (.invokestatic 164, 3) := by decide +kernel
theorem dL_holds_89 : decode cL_holds 89 = .ok (.istore 14, 2) := by decide +kernel
theorem dL_holds_91 : decode cL_holds 91 = .ok (.iload_n 3, 1) := by decide +kernel
theorem dL_holds_92 : decode cL_holds 92 = .ok (.iload 12, 2) := by decide +kernel
theorem dL_holds_94 : decode cL_holds 94 = .ok (.iadd, 1) := by decide +kernel
theorem dL_holds_95 : decode cL_holds 95 = .ok (.istore_n 3, 1) := by decide +kernel
theorem dL_holds_96 : decode cL_holds 96 = .ok (.iload 4, 2) := by decide +kernel
theorem dL_holds_98 : decode cL_holds 98 = .ok (.iload 13, 2) := by decide +kernel
theorem dL_holds_100 : decode cL_holds 100 = .ok (.iadd, 1) := by decide +kernel
theorem dL_holds_101 : decode cL_holds 101 = .ok (.istore 4, 2) := by decide +kernel
theorem dL_holds_103 : decode cL_holds 103 = .ok (.iload 5, 2) := by decide +kernel
theorem dL_holds_105 : decode cL_holds 105 = .ok (.iload 14, 2) := by decide +kernel
theorem dL_holds_107 : decode cL_holds 107 = .ok (.iconst (-1), 1) := by decide +kernel
theorem dL_holds_108 : decode cL_holds 108 = .ok (.if_icmp .ne 7, 3) := by decide +kernel
theorem dL_holds_111 : decode cL_holds 111 = .ok (.iconst 0, 1) := by decide +kernel
theorem dL_holds_112 : decode cL_holds 112 = .ok (.goto 4, 3) := by decide +kernel
theorem dL_holds_115 : decode cL_holds 115 = .ok (.iconst 1, 1) := by decide +kernel
theorem dL_holds_116 : decode cL_holds 116 = .ok (.iadd, 1) := by decide +kernel
theorem dL_holds_117 : decode cL_holds 117 = .ok (.istore 5, 2) := by decide +kernel
theorem dL_holds_119 : decode cL_holds 119 = .ok (.iload 6, 2) := by decide +kernel
theorem dL_holds_121 : decode cL_holds 121 = .ok (.iload 13, 2) := by decide +kernel
theorem dL_holds_123 : decode cL_holds 123 = .ok (.iconst 1, 1) := by decide +kernel
theorem dL_holds_124 : decode cL_holds 124 = .ok (.if_icmp .ne 18, 3) := by decide +kernel
theorem dL_holds_127 : decode cL_holds 127 = .ok (.iload 12, 2) := by decide +kernel
theorem dL_holds_129 : decode cL_holds 129 = .ok (.ifCond .ne 13, 3) := by decide +kernel
theorem dL_holds_132 : decode cL_holds 132 = .ok (.iload 14, 2) := by decide +kernel
theorem dL_holds_134 : decode cL_holds 134 = .ok (.iconst (-1), 1) := by decide +kernel
theorem dL_holds_135 : decode cL_holds 135 = .ok (.if_icmp .ne 7, 3) := by decide +kernel
theorem dL_holds_138 : decode cL_holds 138 = .ok (.iconst 1, 1) := by decide +kernel
theorem dL_holds_139 : decode cL_holds 139 = .ok (.goto 4, 3) := by decide +kernel
theorem dL_holds_142 : decode cL_holds 142 = .ok (.iconst 0, 1) := by decide +kernel
theorem dL_holds_143 : decode cL_holds 143 = .ok (.iadd, 1) := by decide +kernel
theorem dL_holds_144 : decode cL_holds 144 = .ok (.istore 6, 2) := by decide +kernel
theorem dL_holds_146 : decode cL_holds 146 = .ok (.iload 7, 2) := by decide +kernel
theorem dL_holds_148 : decode cL_holds 148 = .ok (.aload_n 0, 1) := by decide +kernel
theorem dL_holds_149 : decode cL_holds 149 = .ok (.iconst 3, 1) := by decide +kernel
theorem dL_holds_150 : decode cL_holds 150 = .ok (.iload 11, 2) := by decide +kernel
theorem dL_holds_152 : decode cL_holds 152 = .ok (.iconst 3, 1) := by decide +kernel
theorem dL_holds_153 : decode cL_holds 153 = .ok (.iconst 0, 1) := by decide +kernel
theorem dL_holds_154 : decode cL_holds 154 = .ok (.invokestatic 164, 3) := by decide +kernel
theorem dL_holds_157 : decode cL_holds 157 = .ok (.iadd, 1) := by decide +kernel
theorem dL_holds_158 : decode cL_holds 158 = .ok (.istore 7, 2) := by decide +kernel
theorem dL_holds_160 : decode cL_holds 160 = .ok (.iload 9, 2) := by decide +kernel
theorem dL_holds_162 : decode cL_holds 162 = .ok (.iload 14, 2) := by decide +kernel
theorem dL_holds_164 : decode cL_holds 164 = .ok (.iconst (-1), 1) := by decide +kernel
theorem dL_holds_165 : decode cL_holds 165 = .ok (.if_icmp .eq 13, 3) := by decide +kernel
theorem dL_holds_168 : decode cL_holds 168 = .ok (.iload 8, 2) := by decide +kernel
theorem dL_holds_170 : decode cL_holds 170 = .ok (.iconst (-1), 1) := by decide +kernel
theorem dL_holds_171 : decode cL_holds 171 = .ok (.if_icmp .ne 7, 3) := by decide +kernel
theorem dL_holds_174 : decode cL_holds 174 = .ok (.iconst 1, 1) := by decide +kernel
theorem dL_holds_175 : decode cL_holds 175 = .ok (.goto 4, 3) := by decide +kernel
theorem dL_holds_178 : decode cL_holds 178 = .ok (.iconst 0, 1) := by decide +kernel
theorem dL_holds_179 : decode cL_holds 179 = .ok (.iadd, 1) := by decide +kernel
theorem dL_holds_180 : decode cL_holds 180 = .ok (.istore 9, 2) := by decide +kernel
theorem dL_holds_182 : decode cL_holds 182 = .ok (.iload 12, 2) := by decide +kernel
theorem dL_holds_184 : decode cL_holds 184 = .ok (.ifCond .eq 15, 3) := by decide +kernel
theorem dL_holds_187 : decode cL_holds 187 = .ok (.iload 13, 2) := by decide +kernel
theorem dL_holds_189 : decode cL_holds 189 = .ok (.iconst 1, 1) := by decide +kernel
theorem dL_holds_190 : decode cL_holds 190 = .ok (.if_icmp .ne 72, 3) := by decide +kernel
theorem dL_holds_193 : decode cL_holds 193 = .ok (.iload 14, 2) := by decide +kernel
theorem dL_holds_195 : decode cL_holds 195 = .ok (.iconst (-1), 1) := by decide +kernel
theorem dL_holds_196 : decode cL_holds 196 = .ok (.if_icmp .ne 66, 3) := by decide +kernel
theorem dL_holds_199 : decode cL_holds 199 = .ok (.iload 14, 2) := by decide +kernel
theorem dL_holds_201 : decode cL_holds 201 = .ok (.iconst (-1), 1) := by decide +kernel
theorem dL_holds_202 : decode cL_holds 202 = .ok (.if_icmp .eq 56, 3) := by decide +kernel
theorem dL_holds_205 : decode cL_holds 205 = .ok (.iload 13, 2) := by decide +kernel
theorem dL_holds_207 : decode cL_holds 207 = .ok (.iconst 1, 1) := by decide +kernel
theorem dL_holds_208 : decode cL_holds 208 = .ok (.if_icmp .ne 54, 3) := by decide +kernel
theorem dL_holds_211 : decode cL_holds 211 = .ok (.iload 14, 2) := by decide +kernel
theorem dL_holds_213 : decode cL_holds 213 = .ok (.iload 9, 2) := by decide +kernel
theorem dL_holds_215 : decode cL_holds 215 = .ok (.iconst 1, 1) := by decide +kernel
theorem dL_holds_216 : decode cL_holds 216 = .ok (.isub, 1) := by decide +kernel
theorem dL_holds_217 : decode cL_holds 217 = .ok (.if_icmp .ne 45, 3) := by decide +kernel
theorem dL_holds_220 : decode cL_holds 220 = .ok (.iload 11, 2) := by decide +kernel
theorem dL_holds_222 : decode cL_holds 222 = .ok (.aload_n 0, 1) := by decide +kernel
theorem dL_holds_223 : decode cL_holds 223 = .ok (.iconst 4, 1) := by decide +kernel
theorem dL_holds_224 : decode cL_holds 224 = .ok (.iload 14, 2) := by decide +kernel
theorem dL_holds_226 : decode cL_holds 226 = .ok (.iconst 0, 1) := by decide +kernel
theorem dL_holds_227 : decode cL_holds 227 = .ok (.iconst 0, 1) := by decide +kernel
theorem dL_holds_228 : decode cL_holds 228 = .ok (.invokestatic 164, 3) := by decide +kernel
theorem dL_holds_231 : decode cL_holds 231 = .ok (.if_icmp .lt 31, 3) := by decide +kernel
theorem dL_holds_234 : decode cL_holds 234 = .ok (.iload 11, 2) := by decide +kernel
theorem dL_holds_236 : decode cL_holds 236 = .ok (.aload_n 0, 1) := by decide +kernel
theorem dL_holds_237 : decode cL_holds 237 = .ok (.iconst 4, 1) := by decide +kernel
theorem dL_holds_238 : decode cL_holds 238 = .ok (.iload 14, 2) := by decide +kernel
theorem dL_holds_240 : decode cL_holds 240 = .ok (.iconst 0, 1) := by decide +kernel
theorem dL_holds_241 : decode cL_holds 241 = .ok (.iconst 0, 1) := by decide +kernel
theorem dL_holds_242 : decode cL_holds 242 = .ok (.invokestatic 164, 3) := by decide +kernel
theorem dL_holds_245 : decode cL_holds 245 = .ok (.aload_n 0, 1) := by decide +kernel
theorem dL_holds_246 : decode cL_holds 246 = .ok (.iconst 4, 1) := by decide +kernel
theorem dL_holds_247 : decode cL_holds 247 = .ok (.iload 14, 2) := by decide +kernel
theorem dL_holds_249 : decode cL_holds 249 = .ok (.iconst 1, 1) := by decide +kernel
theorem dL_holds_250 : decode cL_holds 250 = .ok (.iconst 0, 1) := by decide +kernel
theorem dL_holds_251 : decode cL_holds 251 = .ok (.invokestatic 164, 3) := by decide +kernel
theorem dL_holds_254 : decode cL_holds 254 = .ok (.iadd, 1) := by decide +kernel
theorem dL_holds_255 : decode cL_holds 255 = .ok (.if_icmp .ge 7, 3) := by decide +kernel
theorem dL_holds_258 : decode cL_holds 258 = .ok (.iconst 1, 1) := by decide +kernel
theorem dL_holds_259 : decode cL_holds 259 = .ok (.goto 4, 3) := by decide +kernel
theorem dL_holds_262 : decode cL_holds 262 = .ok (.iconst 0, 1) := by decide +kernel
theorem dL_holds_263 : decode cL_holds 263 = .ok (.istore 10, 2) := by decide +kernel
theorem dL_holds_265 : decode cL_holds 265 = .ok (.iload 14, 2) := by decide +kernel
theorem dL_holds_267 : decode cL_holds 267 = .ok (.istore 8, 2) := by decide +kernel
theorem dL_holds_269 : decode cL_holds 269 = .ok (.iinc 11 1, 3) := by decide +kernel
theorem dL_holds_272 : decode cL_holds 272 = .ok (.goto (-227), 3) := by decide +kernel
theorem dL_holds_275 : decode cL_holds 275 = .ok (.iconst 0, 1) := by decide +kernel
theorem dL_holds_276 : decode cL_holds 276 = .ok (.istore 11, 2) := by decide +kernel
theorem dL_holds_278 : decode cL_holds 278 = .ok (.iconst 0, 1) := by decide +kernel
theorem dL_holds_279 : decode cL_holds 279 = .ok (.istore 12, 2) := by decide +kernel
theorem dL_holds_281 : decode cL_holds 281 = .ok (.iconst 0, 1) := by decide +kernel
theorem dL_holds_282 : decode cL_holds 282 = .ok (.istore 13, 2) := by decide +kernel
theorem dL_holds_284 : decode cL_holds 284 = .ok (.iload 13, 2) := by decide +kernel
theorem dL_holds_286 : decode cL_holds 286 = .ok (.iload_n 2, 1) := by decide +kernel
theorem dL_holds_287 : decode cL_holds 287 = .ok (.if_icmp .ge 137, 3) := by decide +kernel
theorem dL_holds_290 : decode cL_holds 290 = .ok (.iload 10, 2) := by decide +kernel
theorem dL_holds_292 : decode cL_holds 292 = .ok (.ifCond .eq 132, 3) := by decide +kernel
theorem dL_holds_295 : decode cL_holds 295 = .ok (.iload 11, 2) := by decide +kernel
theorem dL_holds_297 : decode cL_holds 297 = .ok (.aload_n 0, 1) := by decide +kernel
theorem dL_holds_298 : decode cL_holds 298 = .ok (.iconst 4, 1) := by decide +kernel
theorem dL_holds_299 : decode cL_holds 299 = .ok (.iload 13, 2) := by decide +kernel
theorem dL_holds_301 : decode cL_holds 301 = .ok (.iconst 1, 1) := by decide +kernel
theorem dL_holds_302 : decode cL_holds 302 = .ok (.iconst 0, 1) := by decide +kernel
theorem dL_holds_303 : decode cL_holds 303 = .ok (.invokestatic 164, 3) := by decide +kernel
theorem dL_holds_306 : decode cL_holds 306 = .ok (.iadd, 1) := by decide +kernel
theorem dL_holds_307 : decode cL_holds 307 = .ok (.istore 11, 2) := by decide +kernel
theorem dL_holds_309 : decode cL_holds 309 = .ok (.iload 12, 2) := by decide +kernel
theorem dL_holds_311 : decode cL_holds 311 = .ok (.aload_n 0, 1) := by decide +kernel
theorem dL_holds_312 : decode cL_holds 312 = .ok (.iconst 4, 1) := by decide +kernel
theorem dL_holds_313 : decode cL_holds 313 = .ok (.iload 13, 2) := by decide +kernel
theorem dL_holds_315 : decode cL_holds 315 = .ok (.iconst 4, 1) := by decide +kernel
theorem dL_holds_316 : decode cL_holds 316 = .ok (.iconst 0, 1) := by decide +kernel
theorem dL_holds_317 : decode cL_holds 317 = .ok (.invokestatic 164, 3) := by decide +kernel
theorem dL_holds_320 : decode cL_holds 320 = .ok (.iadd, 1) := by decide +kernel
theorem dL_holds_321 : decode cL_holds 321 = .ok (.istore 12, 2) := by decide +kernel
theorem dL_holds_323 : decode cL_holds 323 = .ok (.aload_n 0, 1) := by decide +kernel
theorem dL_holds_324 : decode cL_holds 324 = .ok (.iconst 4, 1) := by decide +kernel
theorem dL_holds_325 : decode cL_holds 325 = .ok (.iload 13, 2) := by decide +kernel
theorem dL_holds_327 : decode cL_holds 327 = .ok (.iconst 2, 1) := by decide +kernel
theorem dL_holds_328 : decode cL_holds 328 = .ok (.iconst 0, 1) := by decide +kernel
theorem dL_holds_329 : decode cL_holds 329 = .ok (.invokestatic 164, 3) := by decide +kernel
theorem dL_holds_332 : decode cL_holds 332 = .ok (.aload_n 0, 1) := by decide +kernel
theorem dL_holds_333 : decode cL_holds 333 = .ok (.iconst 2, 1) := by decide +kernel
theorem dL_holds_334 : decode cL_holds 334 = .ok (.iconst 4, 1) := by decide +kernel
theorem dL_holds_335 : decode cL_holds 335 = .ok (.iconst 0, 1) := by decide +kernel
theorem dL_holds_336 : decode cL_holds 336 = .ok (.iconst 0, 1) := by decide +kernel
theorem dL_holds_337 : decode cL_holds 337 = .ok (.invokestatic 164, 3) := by decide +kernel
theorem dL_holds_340 : decode cL_holds 340 = .ok (.if_icmp .gt 75, 3) := by decide +kernel
theorem dL_holds_343 : decode cL_holds 343 = .ok (.aload_n 0, 1) := by decide +kernel
theorem dL_holds_344 : decode cL_holds 344 = .ok (.iconst 4, 1) := by decide +kernel
theorem dL_holds_345 : decode cL_holds 345 = .ok (.iload 13, 2) := by decide +kernel
theorem dL_holds_347 : decode cL_holds 347 = .ok (.iconst 3, 1) := by decide +kernel
theorem dL_holds_348 : decode cL_holds 348 = .ok (.iconst 0, 1) := by decide +kernel
theorem dL_holds_349 : decode cL_holds 349 = .ok (.invokestatic 164, 3) := by decide +kernel
theorem dL_holds_352 : decode cL_holds 352 = .ok (.aload_n 0, 1) := by decide +kernel
theorem dL_holds_353 : decode cL_holds 353 = .ok (.iconst 4, 1) := by decide +kernel
theorem dL_holds_354 : decode cL_holds 354 = .ok (.iload 13, 2) := by decide +kernel
theorem dL_holds_356 : decode cL_holds 356 = .ok (.iconst 4, 1) := by decide +kernel
theorem dL_holds_357 : decode cL_holds 357 = .ok (.iconst 0, 1) := by decide +kernel
theorem dL_holds_358 : decode cL_holds 358 = .ok (.invokestatic 164, 3) := by decide +kernel
theorem dL_holds_361 : decode cL_holds 361 = .ok (.if_icmp .gt 54, 3) := by decide +kernel
theorem dL_holds_364 : decode cL_holds 364 = .ok (.aload_n 0, 1) := by decide +kernel
theorem dL_holds_365 : decode cL_holds 365 = .ok (.iconst 4, 1) := by decide +kernel
theorem dL_holds_366 : decode cL_holds 366 = .ok (.iload 13, 2) := by decide +kernel
theorem dL_holds_368 : decode cL_holds 368 = .ok (.iconst 5, 1) := by decide +kernel
theorem dL_holds_369 : decode cL_holds 369 = .ok (.iconst 0, 1) := by decide +kernel
theorem dL_holds_370 : decode cL_holds 370 = .ok (.invokestatic 164, 3) := by decide +kernel
theorem dL_holds_373 : decode cL_holds 373 = .ok (.aload_n 0, 1) := by decide +kernel
theorem dL_holds_374 : decode cL_holds 374 = .ok (.iconst 2, 1) := by decide +kernel
theorem dL_holds_375 : decode cL_holds 375 = .ok (.iconst 4, 1) := by decide +kernel
theorem dL_holds_376 : decode cL_holds 376 = .ok (.iconst 0, 1) := by decide +kernel
theorem dL_holds_377 : decode cL_holds 377 = .ok (.iconst 0, 1) := by decide +kernel
theorem dL_holds_378 : decode cL_holds 378 = .ok (.invokestatic 164, 3) := by decide +kernel
theorem dL_holds_381 : decode cL_holds 381 = .ok (.aload_n 0, 1) := by decide +kernel
theorem dL_holds_382 : decode cL_holds 382 = .ok (.iconst 4, 1) := by decide +kernel
theorem dL_holds_383 : decode cL_holds 383 = .ok (.iload 13, 2) := by decide +kernel
theorem dL_holds_385 : decode cL_holds 385 = .ok (.iconst 2, 1) := by decide +kernel
theorem dL_holds_386 : decode cL_holds 386 = .ok (.iconst 0, 1) := by decide +kernel
theorem dL_holds_387 : decode cL_holds 387 = .ok (.invokestatic 164, 3) := by decide +kernel
theorem dL_holds_390 : decode cL_holds 390 = .ok (.isub, 1) := by decide +kernel
theorem dL_holds_391 : decode cL_holds 391 = .ok (.aload_n 0, 1) := by decide +kernel
theorem dL_holds_392 : decode cL_holds 392 = .ok (.bipush 6, 2) := by decide +kernel
theorem dL_holds_394 : decode cL_holds 394 = .ok (.iconst 3, 1) := by decide +kernel
theorem dL_holds_395 : decode cL_holds 395 = .ok (.iconst 0, 1) := by decide +kernel
theorem dL_holds_396 : decode cL_holds 396 = .ok (.iconst 0, 1) := by decide +kernel
theorem dL_holds_397 : decode cL_holds 397 = .ok (.invokestatic 164, 3) := by decide +kernel
theorem dL_holds_400 : decode cL_holds 400 = .ok (.if_icmp .lt 7, 3) := by decide +kernel
theorem dL_holds_403 : decode cL_holds 403 = .ok (.iconst 1, 1) := by decide +kernel
theorem dL_holds_404 : decode cL_holds 404 = .ok (.goto 4, 3) := by decide +kernel
theorem dL_holds_407 : decode cL_holds 407 = .ok (.iconst 0, 1) := by decide +kernel
theorem dL_holds_408 : decode cL_holds 408 = .ok (.if_icmp .ne 7, 3) := by decide +kernel
theorem dL_holds_411 : decode cL_holds 411 = .ok (.iconst 1, 1) := by decide +kernel
theorem dL_holds_412 : decode cL_holds 412 = .ok (.goto 4, 3) := by decide +kernel
theorem dL_holds_415 : decode cL_holds 415 = .ok (.iconst 0, 1) := by decide +kernel
theorem dL_holds_416 : decode cL_holds 416 = .ok (.istore 10, 2) := by decide +kernel
theorem dL_holds_418 : decode cL_holds 418 = .ok (.iinc 13 1, 3) := by decide +kernel
theorem dL_holds_421 : decode cL_holds 421 = .ok (.goto (-137), 3) := by decide +kernel
theorem dL_holds_424 : decode cL_holds 424 = .ok (.iload 10, 2) := by decide +kernel
