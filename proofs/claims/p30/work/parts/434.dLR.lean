theorem dL_refuses_0 : decode cL_refuses 0 = .ok (.iload_n 1, 1) := by decide +kernel
theorem dL_refuses_1 : decode cL_refuses 1 = .ok (.iconst 2, 1) := by decide +kernel
theorem dL_refuses_2 : decode cL_refuses 2 = .ok (.irem, 1) := by decide +kernel
theorem dL_refuses_3 : decode cL_refuses 3 = .ok (.ifCond .ne 12, 3) := by decide +kernel
theorem dL_refuses_6 : decode cL_refuses 6 = .ok (.iconst (-1), 1) := by decide +kernel
theorem dL_refuses_7 : decode cL_refuses 7 = .ok (.iload_n 1, 1) := by decide +kernel
theorem dL_refuses_8 : decode cL_refuses 8 = .ok (.bipush 99, 2) := by decide +kernel
theorem dL_refuses_10 : decode cL_refuses 10 = .ok (.irem, 1) := by decide +kernel
theorem dL_refuses_11 : decode cL_refuses 11 = .ok (.isub, 1) := by decide +kernel
theorem dL_refuses_12 : decode cL_refuses 12 = .ok (.goto 11, 3) := by decide +kernel
theorem dL_refuses_15 : decode cL_refuses 15 = .ok (.sipush 256, 3) := by decide +kernel
theorem dL_refuses_18 : decode cL_refuses 18 = .ok (.iload_n 1, 1) := by decide +kernel
theorem dL_refuses_19 : decode cL_refuses 19 = .ok (.bipush 99, 2) := by decide +kernel
theorem dL_refuses_21 : decode cL_refuses 21 = .ok (.irem, 1) := by decide +kernel
theorem dL_refuses_22 : decode cL_refuses 22 = .ok (.iadd, 1) := by decide +kernel
theorem dL_refuses_23 : decode cL_refuses 23 = .ok (.istore_n 2, 1) := by decide +kernel
theorem dL_refuses_24 : decode cL_refuses 24 = .ok (.aload_n 0, 1) := by decide +kernel
theorem dL_refuses_25 : decode cL_refuses 25 = .ok (.iconst 2, 1) := by decide +kernel
theorem dL_refuses_26 : decode cL_refuses 26 = .ok (.iconst 2, 1) := by decide +kernel
theorem dL_refuses_27 : decode cL_refuses 27 = .ok (.iconst 0, 1) := by decide +kernel
theorem dL_refuses_28 : decode cL_refuses 28 = .ok (.iconst 0, 1) := by decide +kernel
theorem dL_refuses_29 : decode cL_refuses 29 = .ok (.invokestatic 164, 3) := by decide +kernel
theorem dL_refuses_32 : decode cL_refuses 32 = .ok (.iload_n 1, 1) := by decide +kernel
theorem dL_refuses_33 : decode cL_refuses 33 = .ok (.bipush 50, 2) := by decide +kernel
theorem dL_refuses_35 : decode cL_refuses 35 = .ok (.irem, 1) := by decide +kernel
theorem dL_refuses_36 : decode cL_refuses 36 = .ok (.iadd, 1) := by decide +kernel
theorem dL_refuses_37 : decode cL_refuses 37 = .ok (.istore_n 3, 1) := by decide +kernel
theorem dL_refuses_38 : decode cL_refuses 38 = .ok (.iload_n 1, 1) := by decide +kernel
theorem dL_refuses_39 : decode cL_refuses 39 = .ok (.iconst 2, 1) := by decide +kernel
theorem dL_refuses_40 : decode cL_refuses 40 = .ok (.irem, 1) := by decide +kernel
theorem dL_refuses_41 : decode cL_refuses 41 = .ok (.ifCond .ne 11, 3) := by decide +kernel
theorem dL_refuses_44 : decode cL_refuses 44 = .ok (.iload_n 1, 1) := by decide +kernel
theorem dL_refuses_45 : decode cL_refuses 45 = .ok (.ineg, 1) := by decide +kernel
theorem dL_refuses_46 : decode cL_refuses 46 = .ok (.bipush 99, 2) := by decide +kernel
theorem dL_refuses_48 : decode cL_refuses 48 = .ok (.irem, 1) := by decide +kernel
theorem dL_refuses_49 : decode cL_refuses 49 = .ok (.goto 10, 3) := by decide +kernel
theorem dL_refuses_52 : decode cL_refuses 52 = .ok (.bipush 100, 2) := by decide +kernel
theorem dL_refuses_54 : decode cL_refuses 54 = .ok (.iload_n 1, 1) := by decide +kernel
theorem dL_refuses_55 : decode cL_refuses 55 = .ok (.bipush 99, 2) := by decide +kernel
theorem dL_refuses_57 : decode cL_refuses 57 = .ok (.irem, 1) := by decide +kernel
theorem dL_refuses_58 : decode cL_refuses 58 = .ok (.iadd, 1) := by decide +kernel
theorem dL_refuses_59 : decode cL_refuses 59 = .ok (.istore 4, 2) := by decide +kernel
theorem dL_refuses_61 : decode cL_refuses 61 = .ok (.aload_n 0, 1) := by decide +kernel
theorem dL_refuses_62 : decode cL_refuses 62 = .ok (.iconst 0, 1) := by decide +kernel
theorem dL_refuses_63 : decode cL_refuses 63 = .ok (.iload_n 1, 1) := by decide +kernel
theorem dL_refuses_64 : decode cL_refuses 64 = .ok (.iconst 2, 1) := by decide +kernel
theorem dL_refuses_65 : decode cL_refuses 65 = .ok (.irem, 1) := by decide +kernel
theorem dL_refuses_66 : decode cL_refuses 66 = .ok (.ifCond .ne 12, 3) := by decide +kernel
theorem dL_refuses_69 : decode cL_refuses 69 = .ok (.iconst (-1), 1) := by decide +kernel
theorem dL_refuses_70 : decode cL_refuses 70 = .ok (.iload_n 1, 1) := by decide +kernel
theorem dL_refuses_71 : decode cL_refuses 71 = .ok (.bipush 9, 2) := by decide +kernel
theorem dL_refuses_73 : decode cL_refuses 73 = .ok (.irem, 1) := by decide +kernel
theorem dL_refuses_74 : decode cL_refuses 74 = .ok (.isub, 1) := by decide +kernel
theorem dL_refuses_75 : decode cL_refuses 75 = .ok (.goto 11, 3) := by decide +kernel
theorem dL_refuses_78 : decode cL_refuses 78 = .ok (.sipush 256, 3) := by decide +kernel
theorem dL_refuses_81 : decode cL_refuses 81 = .ok (.iload_n 1, 1) := by decide +kernel
theorem dL_refuses_82 : decode cL_refuses 82 = .ok (.bipush 9, 2) := by decide +kernel
theorem dL_refuses_84 : decode cL_refuses 84 = .ok (.irem, 1) := by decide +kernel
theorem dL_refuses_85 : decode cL_refuses 85 = .ok (.iadd, 1) := by decide +kernel
theorem dL_refuses_86 : decode cL_refuses 86 = .ok (.iconst 0, 1) := by decide +kernel
theorem dL_refuses_87 : decode cL_refuses 87 = .ok (.iconst 0, 1) := by decide +kernel
theorem dL_refuses_88 : decode cL_refuses 88 = .ok (.invokestatic 164, 3) := by decide +kernel
theorem dL_refuses_91 : decode cL_refuses 91 = .ok (.ldc 15, 2) := by decide +kernel
theorem dL_refuses_93 : decode cL_refuses 93 = .ok (.if_icmp .ne 484, 3) := by decide +kernel
theorem dL_refuses_96 : decode cL_refuses 96 = .ok (.aload_n 0, 1) := by decide +kernel
theorem dL_refuses_97 : decode cL_refuses 97 = .ok (.iconst 2, 1) := by decide +kernel
theorem dL_refuses_98 : decode cL_refuses 98 = .ok (.bipush 11, 2) := by decide +kernel
theorem dL_refuses_100 : decode cL_refuses 100 = .ok (.iload_n 1, 1) := by decide +kernel
theorem dL_refuses_101 : decode cL_refuses 101 = .ok (.bipush 50, 2) := by decide +kernel
theorem dL_refuses_103 : decode cL_refuses 103 = .ok (.irem, 1) := by decide +kernel
theorem dL_refuses_104 : decode cL_refuses 104 = .ok (.iadd, 1) := by decide +kernel
theorem dL_refuses_105 : decode cL_refuses 105 = .ok (.iconst 0, 1) := by decide +kernel
theorem dL_refuses_106 : decode cL_refuses 106 = .ok (.iconst 0, 1) := by decide +kernel
theorem dL_refuses_107 : decode cL_refuses 107 = .ok (.invokestatic 164, 3) := by decide +kernel
theorem dL_refuses_110 : decode cL_refuses 110 = .ok (.ldc 15, 2) := by decide +kernel
theorem dL_refuses_112 : decode cL_refuses 112 = .ok (.if_icmp .ne 465, 3) := by decide +kernel
theorem dL_refuses_115 : decode cL_refuses 115 = .ok (.aload_n 0, 1) := by decide +kernel
theorem dL_refuses_116 : decode cL_refuses 116 = .ok (.iconst 3, 1) := by decide +kernel
theorem dL_refuses_117 : decode cL_refuses 117 = .ok (.iload_n 2, 1) := by decide +kernel
theorem dL_refuses_118 : decode cL_refuses 118 = .ok (.bipush 9, 2) := by decide +kernel
theorem dL_refuses_120 : decode cL_refuses 120 = .ok (.iconst 0, 1) := by decide +kernel
theorem dL_refuses_121 : decode cL_refuses 121 = .ok (.invokestatic 164, 3) := by decide +kernel
theorem dL_refuses_124 : decode cL_refuses 124 = .ok (.ldc 40, 2) := by decide +kernel
theorem dL_refuses_126 : decode cL_refuses 126 = .ok (.if_icmp .ne 451, 3) := by decide +kernel
theorem dL_refuses_129 : decode cL_refuses 129 = .ok (.aload_n 0, 1) := by decide +kernel
theorem dL_refuses_130 : decode cL_refuses 130 = .ok (.iconst 3, 1) := by decide +kernel
theorem dL_refuses_131 : decode cL_refuses 131 = .ok (.iload_n 1, 1) := by decide +kernel
theorem dL_refuses_132 : decode cL_refuses 132 = .ok (.sipush 256, 3) := by decide +kernel
theorem dL_refuses_135 : decode cL_refuses 135 = .ok (.irem, 1) := by decide +kernel
theorem dL_refuses_136 : decode cL_refuses 136 = .ok (.iconst 4, 1) := by decide +kernel
theorem dL_refuses_137 : decode cL_refuses 137 = .ok (.iload_n 1, 1) := by decide +kernel
theorem dL_refuses_138 : decode cL_refuses 138 = .ok (.bipush 9, 2) := by decide +kernel
theorem dL_refuses_140 : decode cL_refuses 140 = .ok (.irem, 1) := by decide +kernel
theorem dL_refuses_141 : decode cL_refuses 141 = .ok (.iadd, 1) := by decide +kernel
theorem dL_refuses_142 : decode cL_refuses 142 = .ok (.iconst 0, 1) := by decide +kernel
theorem dL_refuses_143 : decode cL_refuses 143 = .ok (.invokestatic 164, 3) := by decide +kernel
theorem dL_refuses_146 : decode cL_refuses 146 = .ok (.ldc 15, 2) := by decide +kernel
theorem dL_refuses_148 : decode cL_refuses 148 = .ok (.if_icmp .ne 429, 3) := by decide +kernel
theorem dL_refuses_151 : decode cL_refuses 151 = .ok (.aload_n 0, 1) := by decide +kernel
theorem dL_refuses_152 : decode cL_refuses 152 = .ok (.iconst 4, 1) := by decide +kernel
theorem dL_refuses_153 : decode cL_refuses 153 = .ok (.iload_n 3, 1) := by decide +kernel
theorem dL_refuses_154 : decode cL_refuses 154 = .ok (.bipush 9, 2) := by decide +kernel
theorem dL_refuses_156 : decode cL_refuses 156 = .ok (.iconst 0, 1) := by decide +kernel
theorem dL_refuses_157 : decode cL_refuses 157 = .ok (.invokestatic 164, 3) := by decide +kernel
theorem dL_refuses_160 : decode cL_refuses 160 = .ok (.ldc 40, 2) := by decide +kernel
theorem dL_refuses_162 : decode cL_refuses 162 = .ok (.if_icmp .ne 415, 3) := by decide +kernel
theorem dL_refuses_165 : decode cL_refuses 165 = .ok (.aload_n 0, 1) := by decide +kernel
theorem dL_refuses_166 : decode cL_refuses 166 = .ok (.iconst 5, 1) := by decide +kernel
theorem dL_refuses_167 : decode cL_refuses 167 = .ok (.iconst 3, 1) := by decide +kernel
theorem dL_refuses_168 : decode cL_refuses 168 = .ok (.iload_n 1, 1) := by decide +kernel
theorem dL_refuses_169 : decode cL_refuses 169 = .ok (.bipush 9, 2) := by decide +kernel
theorem dL_refuses_171 : decode cL_refuses 171 = .ok (.irem, 1) := by decide +kernel
theorem dL_refuses_172 : decode cL_refuses 172 = .ok (.iadd, 1) := by decide +kernel
theorem dL_refuses_173 : decode cL_refuses 173 = .ok (.bipush 9, 2) := by decide +kernel
theorem dL_refuses_175 : decode cL_refuses 175 = .ok (.iconst 0, 1) := by decide +kernel
theorem dL_refuses_176 : decode cL_refuses 176 = .ok (.invokestatic 164, 3) := by decide +kernel
theorem dL_refuses_179 : decode cL_refuses 179 = .ok (.ldc 40, 2) := by decide +kernel
theorem dL_refuses_181 : decode cL_refuses 181 = .ok (.if_icmp .ne 396, 3) := by decide +kernel
theorem dL_refuses_184 : decode cL_refuses 184 = .ok (.aload_n 0, 1) := by decide +kernel
theorem dL_refuses_185 : decode cL_refuses 185 = .ok (.bipush 6, 2) := by decide +kernel
theorem dL_refuses_187 : decode cL_refuses 187 = .ok (.bipush 6, 2) := by decide +kernel
theorem dL_refuses_189 : decode cL_refuses 189 = .ok (.iload_n 1, 1) := by decide +kernel
theorem dL_refuses_190 : decode cL_refuses 190 = .ok (.bipush 9, 2) := by decide +kernel
theorem dL_refuses_192 : decode cL_refuses 192 = .ok (.irem, 1) := by decide +kernel
theorem dL_refuses_193 : decode cL_refuses 193 = .ok (.iadd, 1) := by decide +kernel
theorem dL_refuses_194 : decode cL_refuses 194 = .ok (.iconst 0, 1) := by decide +kernel
theorem dL_refuses_195 : decode cL_refuses 195 = .ok (.iconst 0, 1) := by decide +kernel
theorem dL_refuses_196 : decode cL_refuses 196 = .ok (.invokestatic 164, 3) := by decide +kernel
theorem dL_refuses_199 : decode cL_refuses 199 = .ok (.ldc 15, 2) := by decide +kernel
theorem dL_refuses_201 : decode cL_refuses 201 = .ok (.if_icmp .ne 376, 3) := by decide +kernel
theorem dL_refuses_204 : decode cL_refuses 204 = .ok (.aload_n 0, 1) := by decide +kernel
theorem dL_refuses_205 : decode cL_refuses 205 = .ok (.bipush 7, 2) := by decide +kernel
theorem dL_refuses_207 : decode cL_refuses 207 = .ok (.iload_n 2, 1) := by decide +kernel
theorem dL_refuses_208 : decode cL_refuses 208 = .ok (.iload 4, 2) := by decide +kernel
theorem dL_refuses_210 : decode cL_refuses 210 = .ok (.iconst 0, 1) := by decide +kernel
theorem dL_refuses_211 : decode cL_refuses 211 = .ok (.invokestatic 164, 3) := by decide +kernel
theorem dL_refuses_214 : decode cL_refuses 214 = .ok (.ldc 40, 2) := by decide +kernel
theorem dL_refuses_216 : decode cL_refuses 216 = .ok (.if_icmp .ne 361, 3) := by decide +kernel
theorem dL_refuses_219 : decode cL_refuses 219 = .ok (.aload_n 0, 1) := by decide +kernel
theorem dL_refuses_220 : decode cL_refuses 220 = .ok (.bipush 7, 2) := by decide +kernel
theorem dL_refuses_222 : decode cL_refuses 222 = .ok (.iload_n 1, 1) := by decide +kernel
theorem dL_refuses_223 : decode cL_refuses 223 = .ok (.sipush 256, 3) := by decide +kernel
theorem dL_refuses_226 : decode cL_refuses 226 = .ok (.irem, 1) := by decide +kernel
theorem dL_refuses_227 : decode cL_refuses 227 = .ok (.iload 4, 2) := by decide +kernel
theorem dL_refuses_229 : decode cL_refuses 229 = .ok (.iconst 0, 1) := by decide +kernel
theorem dL_refuses_230 : decode cL_refuses 230 = .ok (.invokestatic 164, 3) := by decide +kernel
theorem dL_refuses_233 : decode cL_refuses 233 = .ok (.ldc 15, 2) := by decide +kernel
theorem dL_refuses_235 : decode cL_refuses 235 = .ok (.if_icmp .ne 342, 3) := by decide +kernel
theorem dL_refuses_238 : decode cL_refuses 238 = .ok (.aload_n 0, 1) := by decide +kernel
theorem dL_refuses_239 : decode cL_refuses 239 = .ok (.bipush 8, 2) := by decide +kernel
theorem dL_refuses_241 : decode cL_refuses 241 = .ok (.iload_n 2, 1) := by decide +kernel
theorem dL_refuses_242 : decode cL_refuses 242 = .ok (.iload 4, 2) := by decide +kernel
theorem dL_refuses_244 : decode cL_refuses 244 = .ok (.iconst 0, 1) := by decide +kernel
theorem dL_refuses_245 : decode cL_refuses 245 = .ok (.invokestatic 164, 3) := by decide +kernel
theorem dL_refuses_248 : decode cL_refuses 248 = .ok (.ldc 40, 2) := by decide +kernel
theorem dL_refuses_250 : decode cL_refuses 250 = .ok (.if_icmp .ne 327, 3) := by decide +kernel
theorem dL_refuses_253 : decode cL_refuses 253 = .ok (.aload_n 0, 1) := by decide +kernel
theorem dL_refuses_254 : decode cL_refuses 254 = .ok (.bipush 8, 2) := by decide +kernel
theorem dL_refuses_256 : decode cL_refuses 256 = .ok (.sipush 200, 3) := by decide +kernel
theorem dL_refuses_259 : decode cL_refuses 259 = .ok (.iload_n 1, 1) := by decide +kernel
theorem dL_refuses_260 : decode cL_refuses 260 = .ok (.bipush 56, 2) := by decide +kernel
theorem dL_refuses_262 : decode cL_refuses 262 = .ok (.irem, 1) := by decide +kernel
theorem dL_refuses_263 : decode cL_refuses 263 = .ok (.iadd, 1) := by decide +kernel
theorem dL_refuses_264 : decode cL_refuses 264 = .ok (.bipush 57, 2) := by decide +kernel
theorem dL_refuses_266 : decode cL_refuses 266 = .ok (.iload_n 1, 1) := by decide +kernel
theorem dL_refuses_267 : decode cL_refuses 267 = .ok (.bipush 43, 2) := by decide +kernel
theorem dL_refuses_269 : decode cL_refuses 269 = .ok (.irem, 1) := by decide +kernel
theorem dL_refuses_270 : decode cL_refuses 270 = .ok (.iadd, 1) := by decide +kernel
theorem dL_refuses_271 : decode cL_refuses 271 = .ok (.iconst 0, 1) := by decide +kernel
theorem dL_refuses_272 : decode cL_refuses 272 = .ok (.invokestatic 164, 3) := by decide +kernel
theorem dL_refuses_275 : decode cL_refuses 275 = .ok (.ldc 26, 2) := by decide +kernel
theorem dL_refuses_277 : decode cL_refuses 277 = .ok (.if_icmp .ne 300, 3) := by decide +kernel
theorem dL_refuses_280 : decode cL_refuses 280 = .ok (.aload_n 0, 1) := by decide +kernel
theorem dL_refuses_281 : decode cL_refuses 281 = .ok (.bipush 9, 2) := by decide +kernel
theorem dL_refuses_283 : decode cL_refuses 283 = .ok (.iconst 3, 1) := by decide +kernel
theorem dL_refuses_284 : decode cL_refuses 284 = .ok (.iload_n 1, 1) := by decide +kernel
theorem dL_refuses_285 : decode cL_refuses 285 = .ok (.bipush 9, 2) := by decide +kernel
theorem dL_refuses_287 : decode cL_refuses 287 = .ok (.irem, 1) := by decide +kernel
theorem dL_refuses_288 : decode cL_refuses 288 = .ok (.iadd, 1) := by decide +kernel
theorem dL_refuses_289 : decode cL_refuses 289 = .ok (.iload_n 2, 1) := by decide +kernel
theorem dL_refuses_290 : decode cL_refuses 290 = .ok (.iload 4, 2) := by decide +kernel
theorem dL_refuses_292 : decode cL_refuses 292 = .ok (.invokestatic 164, 3) := by decide +kernel
theorem dL_refuses_295 : decode cL_refuses 295 = .ok (.ldc 40, 2) := by decide +kernel
theorem dL_refuses_297 : decode cL_refuses 297 = .ok (.if_icmp .ne 280, 3) := by decide +kernel
theorem dL_refuses_300 : decode cL_refuses 300 = .ok (.aload_n 0, 1) := by decide +kernel
theorem dL_refuses_301 : decode cL_refuses 301 = .ok (.bipush 9, 2) := by decide +kernel
theorem dL_refuses_303 : decode cL_refuses 303 = .ok (.iload_n 1, 1) := by decide +kernel
theorem dL_refuses_304 : decode cL_refuses 304 = .ok (.iconst 3, 1) := by decide +kernel
theorem dL_refuses_305 : decode cL_refuses 305 = .ok (.irem, 1) := by decide +kernel
theorem dL_refuses_306 : decode cL_refuses 306 = .ok (.iload_n 2, 1) := by decide +kernel
theorem dL_refuses_307 : decode cL_refuses 307 = .ok (.iload 4, 2) := by decide +kernel
theorem dL_refuses_309 : decode cL_refuses 309 = .ok (.invokestatic 164, 3) := by decide +kernel
theorem dL_refuses_312 : decode cL_refuses 312 = .ok (.ldc 40, 2) := by decide +kernel
theorem dL_refuses_314 : decode cL_refuses 314 = .ok (.if_icmp .ne 263, 3) := by decide +kernel
theorem dL_refuses_317 : decode cL_refuses 317 = .ok (.aload_n 0, 1) := by decide +kernel
theorem dL_refuses_318 : decode cL_refuses 318 = .ok (.bipush 9, 2) := by decide +kernel
theorem dL_refuses_320 : decode cL_refuses 320 = .ok (.iload_n 1, 1) := by decide +kernel
theorem dL_refuses_321 : decode cL_refuses 321 = .ok (.iconst 3, 1) := by decide +kernel
theorem dL_refuses_322 : decode cL_refuses 322 = .ok (.irem, 1) := by decide +kernel
theorem dL_refuses_323 : decode cL_refuses 323 = .ok (.sipush 255, 3) := by decide +kernel
theorem dL_refuses_326 : decode cL_refuses 326 = .ok (.iconst 2, 1) := by decide +kernel
theorem dL_refuses_327 : decode cL_refuses 327 = .ok (.iload_n 1, 1) := by decide +kernel
theorem dL_refuses_328 : decode cL_refuses 328 = .ok (.bipush 90, 2) := by decide +kernel
theorem dL_refuses_330 : decode cL_refuses 330 = .ok (.irem, 1) := by decide +kernel
theorem dL_refuses_331 : decode cL_refuses 331 = .ok (.iadd, 1) := by decide +kernel
theorem dL_refuses_332 : decode cL_refuses 332 = .ok (.invokestatic 164, 3) := by decide +kernel
theorem dL_refuses_335 : decode cL_refuses 335 = .ok (.ldc 26, 2) := by decide +kernel
theorem dL_refuses_337 : decode cL_refuses 337 = .ok (.if_icmp .ne 240, 3) := by decide +kernel
theorem dL_refuses_340 : decode cL_refuses 340 = .ok (.aload_n 0, 1) := by decide +kernel
theorem dL_refuses_341 : decode cL_refuses 341 = .ok (.bipush 10, 2) := by decide +kernel
theorem dL_refuses_343 : decode cL_refuses 343 = .ok (.iconst 3, 1) := by decide +kernel
theorem dL_refuses_344 : decode cL_refuses 344 = .ok (.iload_n 1, 1) := by decide +kernel
theorem dL_refuses_345 : decode cL_refuses 345 = .ok (.bipush 9, 2) := by decide +kernel
theorem dL_refuses_347 : decode cL_refuses 347 = .ok (.irem, 1) := by decide +kernel
theorem dL_refuses_348 : decode cL_refuses 348 = .ok (.iadd, 1) := by decide +kernel
theorem dL_refuses_349 : decode cL_refuses 349 = .ok (.iconst 0, 1) := by decide +kernel
theorem dL_refuses_350 : decode cL_refuses 350 = .ok (.iconst 0, 1) := by decide +kernel
theorem dL_refuses_351 : decode cL_refuses 351 = .ok (.invokestatic 164, 3) := by decide +kernel
theorem dL_refuses_354 : decode cL_refuses 354 = .ok (.ldc 40, 2) := by decide +kernel
theorem dL_refuses_356 : decode cL_refuses 356 = .ok (.if_icmp .ne 221, 3) := by decide +kernel
theorem dL_refuses_359 : decode cL_refuses 359 = .ok (.aload_n 0, 1) := by decide +kernel
theorem dL_refuses_360 : decode cL_refuses 360 = .ok (.bipush 11, 2) := by decide +kernel
theorem dL_refuses_362 : decode cL_refuses 362 = .ok (.bipush 61, 2) := by decide +kernel
theorem dL_refuses_364 : decode cL_refuses 364 = .ok (.iload_n 1, 1) := by decide +kernel
theorem dL_refuses_365 : decode cL_refuses 365 = .ok (.bipush 9, 2) := by decide +kernel
theorem dL_refuses_367 : decode cL_refuses 367 = .ok (.irem, 1) := by decide +kernel
theorem dL_refuses_368 : decode cL_refuses 368 = .ok (.iadd, 1) := by decide +kernel
theorem dL_refuses_369 : decode cL_refuses 369 = .ok (.iconst 0, 1) := by decide +kernel
theorem dL_refuses_370 : decode cL_refuses 370 = .ok (.iconst 0, 1) := by decide +kernel
theorem dL_refuses_371 : decode cL_refuses 371 = .ok (.invokestatic 164, 3) := by decide +kernel
theorem dL_refuses_374 : decode cL_refuses 374 = .ok (.ldc 15, 2) := by decide +kernel
theorem dL_refuses_376 : decode cL_refuses 376 = .ok (.if_icmp .ne 201, 3) := by decide +kernel
theorem dL_refuses_379 : decode cL_refuses 379 = .ok (.aload_n 0, 1) := by decide +kernel
theorem dL_refuses_380 : decode cL_refuses 380 = .ok (.bipush 12, 2) := by decide +kernel
theorem dL_refuses_382 : decode cL_refuses 382 = .ok (.iload_n 1, 1) := by decide +kernel
theorem dL_refuses_383 : decode cL_refuses 383 = .ok (.bipush 6, 2) := by decide +kernel
theorem dL_refuses_385 : decode cL_refuses 385 = .ok (.irem, 1) := by decide +kernel
theorem dL_refuses_386 : decode cL_refuses 386 = .ok (.bipush 51, 2) := by decide +kernel
theorem dL_refuses_388 : decode cL_refuses 388 = .ok (.iload_n 1, 1) := by decide +kernel
theorem dL_refuses_389 : decode cL_refuses 389 = .ok (.bipush 9, 2) := by decide +kernel
theorem dL_refuses_391 : decode cL_refuses 391 = .ok (.irem, 1) := by decide +kernel
theorem dL_refuses_392 : decode cL_refuses 392 = .ok (.iadd, 1) := by decide +kernel
theorem dL_refuses_393 : decode cL_refuses 393 = .ok (.iconst 0, 1) := by decide +kernel
theorem dL_refuses_394 : decode cL_refuses 394 = .ok (.invokestatic 164, 3) := by decide +kernel
theorem dL_refuses_397 : decode cL_refuses 397 = .ok (.ldc 15, 2) := by decide +kernel
theorem dL_refuses_399 : decode cL_refuses 399 = .ok (.if_icmp .ne 178, 3) := by decide +kernel
theorem dL_refuses_402 : decode cL_refuses 402 = .ok (.aload_n 0, 1) := by decide +kernel
theorem dL_refuses_403 : decode cL_refuses 403 = .ok (.bipush 14, 2) := by decide +kernel
theorem dL_refuses_405 : decode cL_refuses 405 = .ok (.iconst 3, 1) := by decide +kernel
theorem dL_refuses_406 : decode cL_refuses 406 = .ok (.iload_n 1, 1) := by decide +kernel
theorem dL_refuses_407 : decode cL_refuses 407 = .ok (.bipush 9, 2) := by decide +kernel
theorem dL_refuses_409 : decode cL_refuses 409 = .ok (.irem, 1) := by decide +kernel
theorem dL_refuses_410 : decode cL_refuses 410 = .ok (.iadd, 1) := by decide +kernel
theorem dL_refuses_411 : decode cL_refuses 411 = .ok (.iconst 0, 1) := by decide +kernel
theorem dL_refuses_412 : decode cL_refuses 412 = .ok (.iconst 0, 1) := by decide +kernel
theorem dL_refuses_413 : decode cL_refuses 413 = .ok (.invokestatic 164, 3) := by decide +kernel
theorem dL_refuses_416 : decode cL_refuses 416 = .ok (.ldc 15, 2) := by decide +kernel
theorem dL_refuses_418 : decode cL_refuses 418 = .ok (.if_icmp .ne 159, 3) := by decide +kernel
theorem dL_refuses_421 : decode cL_refuses 421 = .ok (.aload_n 0, 1) := by decide +kernel
theorem dL_refuses_422 : decode cL_refuses 422 = .ok (.bipush 15, 2) := by decide +kernel
theorem dL_refuses_424 : decode cL_refuses 424 = .ok (.iload_n 2, 1) := by decide +kernel
theorem dL_refuses_425 : decode cL_refuses 425 = .ok (.iconst 0, 1) := by decide +kernel
theorem dL_refuses_426 : decode cL_refuses 426 = .ok (.iconst 0, 1) := by decide +kernel
theorem dL_refuses_427 : decode cL_refuses 427 = .ok (.invokestatic 164, 3) := by decide +kernel
theorem dL_refuses_430 : decode cL_refuses 430 = .ok (.ldc 40, 2) := by decide +kernel
theorem dL_refuses_432 : decode cL_refuses 432 = .ok (.if_icmp .ne 145, 3) := by decide +kernel
theorem dL_refuses_435 : decode cL_refuses 435 = .ok (.aload_n 0, 1) := by decide +kernel
theorem dL_refuses_436 : decode cL_refuses 436 = .ok (.bipush 16, 2) := by decide +kernel
theorem dL_refuses_438 : decode cL_refuses 438 = .ok (.bipush 101, 2) := by decide +kernel
theorem dL_refuses_440 : decode cL_refuses 440 = .ok (.iload_n 1, 1) := by decide +kernel
theorem dL_refuses_441 : decode cL_refuses 441 = .ok (.bipush 9, 2) := by decide +kernel
theorem dL_refuses_443 : decode cL_refuses 443 = .ok (.irem, 1) := by decide +kernel
theorem dL_refuses_444 : decode cL_refuses 444 = .ok (.iadd, 1) := by decide +kernel
theorem dL_refuses_445 : decode cL_refuses 445 = .ok (.iconst 0, 1) := by decide +kernel
theorem dL_refuses_446 : decode cL_refuses 446 = .ok (.iconst 0, 1) := by decide +kernel
theorem dL_refuses_447 : decode cL_refuses 447 = .ok (.invokestatic 164, 3) := by decide +kernel
theorem dL_refuses_450 : decode cL_refuses 450 = .ok (.ldc 15, 2) := by decide +kernel
theorem dL_refuses_452 : decode cL_refuses 452 = .ok (.if_icmp .ne 125, 3) := by decide +kernel
theorem dL_refuses_455 : decode cL_refuses 455 = .ok (.aload_n 0, 1) := by decide +kernel
theorem dL_refuses_456 : decode cL_refuses 456 = .ok (.bipush 17, 2) := by decide +kernel
theorem dL_refuses_458 : decode cL_refuses 458 = .ok (.bipush 61, 2) := by decide +kernel
theorem dL_refuses_460 : decode cL_refuses 460 = .ok (.iload_n 1, 1) := by decide +kernel
theorem dL_refuses_461 : decode cL_refuses 461 = .ok (.bipush 9, 2) := by decide +kernel
theorem dL_refuses_463 : decode cL_refuses 463 = .ok (.irem, 1) := by decide +kernel
theorem dL_refuses_464 : decode cL_refuses 464 = .ok (.iadd, 1) := by decide +kernel
theorem dL_refuses_465 : decode cL_refuses 465 = .ok (.iconst 0, 1) := by decide +kernel
theorem dL_refuses_466 : decode cL_refuses 466 = .ok (.iconst 0, 1) := by decide +kernel
theorem dL_refuses_467 : decode cL_refuses 467 = .ok (.invokestatic 164, 3) := by decide +kernel
theorem dL_refuses_470 : decode cL_refuses 470 = .ok (.ldc 15, 2) := by decide +kernel
theorem dL_refuses_472 : decode cL_refuses 472 = .ok (.if_icmp .ne 105, 3) := by decide +kernel
theorem dL_refuses_475 : decode cL_refuses 475 = .ok (.aload_n 0, 1) := by decide +kernel
theorem dL_refuses_476 : decode cL_refuses 476 = .ok (.bipush 18, 2) := by decide +kernel
theorem dL_refuses_478 : decode cL_refuses 478 = .ok (.iload_n 2, 1) := by decide +kernel
theorem dL_refuses_479 : decode cL_refuses 479 = .ok (.iload 4, 2) := by decide +kernel
theorem dL_refuses_481 : decode cL_refuses 481 = .ok (.iconst 0, 1) := by decide +kernel
theorem dL_refuses_482 : decode cL_refuses 482 = .ok (.invokestatic 164, 3) := by decide +kernel
theorem dL_refuses_485 : decode cL_refuses 485 = .ok (.ldc 40, 2) := by decide +kernel
theorem dL_refuses_487 : decode cL_refuses 487 = .ok (.if_icmp .ne 90, 3) := by decide +kernel
theorem dL_refuses_490 : decode cL_refuses 490 = .ok (.aload_n 0, 1) := by decide +kernel
theorem dL_refuses_491 : decode cL_refuses 491 = .ok (.bipush 19, 2) := by decide +kernel
theorem dL_refuses_493 : decode cL_refuses 493 = .ok (.iconst 2, 1) := by decide +kernel
theorem dL_refuses_494 : decode cL_refuses 494 = .ok (.iload_n 1, 1) := by decide +kernel
theorem dL_refuses_495 : decode cL_refuses 495 = .ok (.bipush 50, 2) := by decide +kernel
theorem dL_refuses_497 : decode cL_refuses 497 = .ok (.irem, 1) := by decide +kernel
theorem dL_refuses_498 : decode cL_refuses 498 = .ok (.iadd, 1) := by decide +kernel
theorem dL_refuses_499 : decode cL_refuses 499 = .ok (.iconst 0, 1) := by decide +kernel
theorem dL_refuses_500 : decode cL_refuses 500 = .ok (.iconst 0, 1) := by decide +kernel
theorem dL_refuses_501 : decode cL_refuses 501 = .ok (.invokestatic 164, 3) := by decide +kernel
theorem dL_refuses_504 : decode cL_refuses 504 = .ok (.ldc 40, 2) := by decide +kernel
theorem dL_refuses_506 : decode cL_refuses 506 = .ok (.if_icmp .ne 71, 3) := by decide +kernel
theorem dL_refuses_509 : decode cL_refuses 509 = .ok (.aload_n 0, 1) := by decide +kernel
theorem dL_refuses_510 : decode cL_refuses 510 = .ok (.bipush 20, 2) := by decide +kernel
theorem dL_refuses_512 : decode cL_refuses 512 = .ok (.iconst (-1), 1) := by decide +kernel
theorem dL_refuses_513 : decode cL_refuses 513 = .ok (.iload_n 1, 1) := by decide +kernel
theorem dL_refuses_514 : decode cL_refuses 514 = .ok (.bipush 9, 2) := by decide +kernel
theorem dL_refuses_516 : decode cL_refuses 516 = .ok (.irem, 1) := by decide +kernel
theorem dL_refuses_517 : decode cL_refuses 517 = .ok (.isub, 1) := by decide +kernel
theorem dL_refuses_518 : decode cL_refuses 518 = .ok (.iconst 0, 1) := by decide +kernel
theorem dL_refuses_519 : decode cL_refuses 519 = .ok (.iconst 0, 1) := by decide +kernel
theorem dL_refuses_520 : decode cL_refuses 520 = .ok (.invokestatic 164, 3) := by decide +kernel
theorem dL_refuses_523 : decode cL_refuses 523 = .ok (.ldc 40, 2) := by decide +kernel
theorem dL_refuses_525 : decode cL_refuses 525 = .ok (.if_icmp .ne 52, 3) := by decide +kernel
theorem dL_refuses_528 : decode cL_refuses 528 = .ok (.aload_n 0, 1) := by decide +kernel
theorem dL_refuses_529 : decode cL_refuses 529 = .ok (.iconst 0, 1) := by decide +kernel
theorem dL_refuses_530 : decode cL_refuses 530 = .ok (.lconst 0, 1) := by decide +kernel
theorem dL_refuses_531 : decode cL_refuses 531 = .ok (.invokestatic 168, 3) := by decide +kernel
theorem dL_refuses_534 : decode cL_refuses 534 = .ok (.ldc 15, 2) := by decide +kernel
theorem dL_refuses_536 : decode cL_refuses 536 = .ok (.if_icmp .ne 41, 3) := by decide +kernel
theorem dL_refuses_539 : decode cL_refuses 539 = .ok (.aload_n 0, 1) := by decide +kernel
theorem dL_refuses_540 : decode cL_refuses 540 = .ok (.iconst 1, 1) := by decide +kernel
theorem dL_refuses_541 : decode cL_refuses 541 = .ok (.ldc2_w 172, 3) := by decide +kernel
theorem dL_refuses_544 : decode cL_refuses 544 = .ok (.iload_n 1, 1) := by decide +kernel
theorem dL_refuses_545 : decode cL_refuses 545 = .ok (.i2l, 1) := by decide +kernel
theorem dL_refuses_546 : decode cL_refuses 546 = .ok (.ladd, 1) := by decide +kernel
theorem dL_refuses_547 : decode cL_refuses 547 = .ok (.invokestatic 168, 3) := by decide +kernel
theorem dL_refuses_550 : decode cL_refuses 550 = .ok (.ldc 15, 2) := by decide +kernel
theorem dL_refuses_552 : decode cL_refuses 552 = .ok (.if_icmp .ne 25, 3) := by decide +kernel
theorem dL_refuses_555 : decode cL_refuses 555 = .ok (.aload_n 0, 1) := by decide +kernel
theorem dL_refuses_556 : decode cL_refuses 556 = .ok (.iload_n 1, 1) := by decide +kernel
theorem dL_refuses_557 : decode cL_refuses 557 = .ok (.i2l, 1) := by decide +kernel
theorem dL_refuses_558 : decode cL_refuses 558 = .ok (.bipush 61, 2) := by decide +kernel
theorem dL_refuses_560 : decode cL_refuses 560 = .ok (.iload_n 1, 1) := by decide +kernel
theorem dL_refuses_561 : decode cL_refuses 561 = .ok (.bipush 9, 2) := by decide +kernel
theorem dL_refuses_563 : decode cL_refuses 563 = .ok (.irem, 1) := by decide +kernel
theorem dL_refuses_564 : decode cL_refuses 564 = .ok (.iadd, 1) := by decide +kernel
theorem dL_refuses_565 : decode cL_refuses 565 = .ok (.invokestatic 174, 3) := by decide +kernel
theorem dL_refuses_568 : decode cL_refuses 568 = .ok (.ldc 15, 2) := by decide +kernel
theorem dL_refuses_570 : decode cL_refuses 570 = .ok (.if_icmp .ne 7, 3) := by decide +kernel
theorem dL_refuses_573 : decode cL_refuses 573 = .ok (.iconst 1, 1) := by decide +kernel
theorem dL_refuses_574 : decode cL_refuses 574 = .ok (.goto 4, 3) := by decide +kernel
theorem dL_refuses_577 : decode cL_refuses 577 = .ok (.iconst 0, 1) := by decide +kernel
theorem dL_refuses_578 : decode cL_refuses 578 = .ok (.ireturn, 1) := by decide +kernel
