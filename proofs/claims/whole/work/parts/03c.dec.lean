theorem dX12_in_0 : decode cX12_in 0 = .ok (.iload_n 1, 1) := by decide +kernel
theorem dX12_in_1 : decode cX12_in 1 = .ok (.iload_n 2, 1) := by decide +kernel
theorem dX12_in_2 : decode cX12_in 2 = .ok (.if_icmp .lt 12, 3) := by decide +kernel
theorem dX12_in_5 : decode cX12_in 5 = .ok (.iload_n 1, 1) := by decide +kernel
theorem dX12_in_6 : decode cX12_in 6 = .ok (.iload_n 3, 1) := by decide +kernel
theorem dX12_in_7 : decode cX12_in 7 = .ok (.if_icmp .gt 7, 3) := by decide +kernel
theorem dX12_in_10 : decode cX12_in 10 = .ok (.iconst 1, 1) := by decide +kernel
theorem dX12_in_11 : decode cX12_in 11 = .ok (.goto 4, 3) := by decide +kernel
theorem dX12_in_14 : decode cX12_in 14 = .ok (.iconst 0, 1) := by decide +kernel
theorem dX12_in_15 : decode cX12_in 15 = .ok (.ireturn, 1) := by decide +kernel
theorem dX12_init_0 : decode cX12_init 0 = .ok (.aload_n 0, 1) := by decide +kernel
theorem dX12_init_1 : decode cX12_init 1 = .ok (.invokespecial 1, 3) := by decide +kernel
theorem dX12_init_4 : decode cX12_init 4 = .ok (.aload_n 0, 1) := by decide +kernel
theorem dX12_init_5 : decode cX12_init 5 = .ok (.iconst 0, 1) := by decide +kernel
theorem dX12_init_6 : decode cX12_init 6 = .ok (.putfield 7, 3) := by decide +kernel
theorem dX12_init_9 : decode cX12_init 9 = .ok (.aload_n 0, 1) := by decide +kernel
theorem dX12_init_10 : decode cX12_init 10 = .ok (.iconst 0, 1) := by decide +kernel
theorem dX12_init_11 : decode cX12_init 11 = .ok (.putfield 13, 3) := by decide +kernel
theorem dX12_init_14 : decode cX12_init 14 = .ok (.aload_n 0, 1) := by decide +kernel
theorem dX12_init_15 : decode cX12_init 15 = .ok (.iconst 0, 1) := by decide +kernel
theorem dX12_init_16 : decode cX12_init 16 = .ok (.putfield 16, 3) := by decide +kernel
theorem dX12_init_19 : decode cX12_init 19 = .ok (.aload_n 0, 1) := by decide +kernel
theorem dX12_init_20 : decode cX12_init 20 = .ok (.bipush 50, 2) := by decide +kernel
theorem dX12_init_22 : decode cX12_init 22 = .ok (.putfield 19, 3) := by decide +kernel
theorem dX12_init_25 : decode cX12_init 25 = .ok (.aload_n 0, 1) := by decide +kernel
theorem dX12_init_26 : decode cX12_init 26 = .ok (.bipush 6, 2) := by decide +kernel
theorem dX12_init_28 : decode cX12_init 28 = .ok (.newarray .int, 2) := by decide +kernel
theorem dX12_init_30 : decode cX12_init 30 = .ok (.putfield 22, 3) := by decide +kernel
theorem dX12_init_33 : decode cX12_init 33 = .ok (.aload_n 0, 1) := by decide +kernel
theorem dX12_init_34 : decode cX12_init 34 = .ok (.bipush 6, 2) := by decide +kernel
theorem dX12_init_36 : decode cX12_init 36 = .ok (.newarray .int, 2) := by decide +kernel
theorem dX12_init_38 : decode cX12_init 38 = .ok (.putfield 26, 3) := by decide +kernel
theorem dX12_init_41 : decode cX12_init 41 = .ok (.aload_n 0, 1) := by decide +kernel
theorem dX12_init_42 : decode cX12_init 42 = .ok (.iconst 5, 1) := by decide +kernel
theorem dX12_init_43 : decode cX12_init 43 = .ok (.newarray .int, 2) := by decide +kernel
theorem dX12_init_45 : decode cX12_init 45 = .ok (.putfield 29, 3) := by decide +kernel
theorem dX12_init_48 : decode cX12_init 48 = .ok (.aload_n 0, 1) := by decide +kernel
theorem dX12_init_49 : decode cX12_init 49 = .ok (.sipush 300, 3) := by decide +kernel
theorem dX12_init_52 : decode cX12_init 52 = .ok (.newarray .int, 2) := by decide +kernel
theorem dX12_init_54 : decode cX12_init 54 = .ok (.putfield 32, 3) := by decide +kernel
theorem dX12_init_57 : decode cX12_init 57 = .ok (.aload_n 0, 1) := by decide +kernel
theorem dX12_init_58 : decode cX12_init 58 = .ok (.sipush 300, 3) := by decide +kernel
theorem dX12_init_61 : decode cX12_init 61 = .ok (.newarray .int, 2) := by decide +kernel
theorem dX12_init_63 : decode cX12_init 63 = .ok (.putfield 35, 3) := by decide +kernel
theorem dX12_init_66 : decode cX12_init 66 = .ok (.aload_n 0, 1) := by decide +kernel
theorem dX12_init_67 : decode cX12_init 67 = .ok (.sipush 300, 3) := by decide +kernel
theorem dX12_init_70 : decode cX12_init 70 = .ok (.newarray .int, 2) := by decide +kernel
theorem dX12_init_72 : decode cX12_init 72 = .ok (.putfield 38, 3) := by decide +kernel
theorem dX12_init_75 : decode cX12_init 75 = .ok (.aload_n 0, 1) := by decide +kernel
theorem dX12_init_76 : decode cX12_init 76 = .ok (.sipush 300, 3) := by decide +kernel
theorem dX12_init_79 : decode cX12_init 79 = .ok (.newarray .int, 2) := by decide +kernel
theorem dX12_init_81 : decode cX12_init 81 = .ok (.putfield 41, 3) := by decide +kernel
theorem dX12_init_84 : decode cX12_init 84 = .ok (.aload_n 0, 1) := by decide +kernel
theorem dX12_init_85 : decode cX12_init 85 = .ok (.sipush 300, 3) := by decide +kernel
theorem dX12_init_88 : decode cX12_init 88 = .ok (.newarray .int, 2) := by decide +kernel
theorem dX12_init_90 : decode cX12_init 90 = .ok (.putfield 44, 3) := by decide +kernel
theorem dX12_init_93 : decode cX12_init 93 = .ok (.aload_n 0, 1) := by decide +kernel
theorem dX12_init_94 : decode cX12_init 94 = .ok (.bipush 12, 2) := by decide +kernel
theorem dX12_init_96 : decode cX12_init 96 = .ok (.newarray .int, 2) := by decide +kernel
theorem dX12_init_98 : decode cX12_init 98 = .ok (.putfield 47, 3) := by decide +kernel
theorem dX12_init_101 : decode cX12_init 101 = .ok (.aload_n 0, 1) := by decide +kernel
theorem dX12_init_102 : decode cX12_init 102 = .ok (.bipush 12, 2) := by decide +kernel
theorem dX12_init_104 : decode cX12_init 104 = .ok (.newarray .int, 2) := by decide +kernel
theorem dX12_init_106 : decode cX12_init 106 = .ok (.putfield 50, 3) := by decide +kernel
theorem dX12_init_109 : decode cX12_init 109 = .ok (.aload_n 0, 1) := by decide +kernel
theorem dX12_init_110 : decode cX12_init 110 = .ok (.bipush 16, 2) := by decide +kernel
theorem dX12_init_112 : decode cX12_init 112 = .ok (.newarray .int, 2) := by decide +kernel
theorem dX12_init_114 : decode cX12_init 114 = .ok (.putfield 53, 3) := by decide +kernel
theorem dX12_init_117 : decode cX12_init 117 = .ok (.aload_n 0, 1) := by decide +kernel
theorem dX12_init_118 : decode cX12_init 118 = .ok (.sipush 300, 3) := by decide +kernel
theorem dX12_init_121 : decode cX12_init 121 = .ok (.newarray .int, 2) := by decide +kernel
theorem dX12_init_123 : decode cX12_init 123 = .ok (.putfield 56, 3) := by decide +kernel
theorem dX12_init_126 : decode cX12_init 126 = .ok (.aload_n 0, 1) := by decide +kernel
theorem dX12_init_127 : decode cX12_init 127 = .ok (.iconst 0, 1) := by decide +kernel
theorem dX12_init_128 : decode cX12_init 128 = .ok (.putfield 59, 3) := by decide +kernel
theorem dX12_init_131 : decode cX12_init 131 = .ok (.aload_n 0, 1) := by decide +kernel
theorem dX12_init_132 : decode cX12_init 132 = .ok (.iconst 0, 1) := by decide +kernel
theorem dX12_init_133 : decode cX12_init 133 = .ok (.putfield 62, 3) := by decide +kernel
theorem dX12_init_136 : decode cX12_init 136 = .ok (.aload_n 0, 1) := by decide +kernel
theorem dX12_init_137 : decode cX12_init 137 = .ok (.bipush 8, 2) := by decide +kernel
theorem dX12_init_139 : decode cX12_init 139 = .ok (.newarray .int, 2) := by decide +kernel
theorem dX12_init_141 : decode cX12_init 141 = .ok (.putfield 65, 3) := by decide +kernel
theorem dX12_init_144 : decode cX12_init 144 = .ok (.aload_n 0, 1) := by decide +kernel
theorem dX12_init_145 : decode cX12_init 145 = .ok (.bipush 8, 2) := by decide +kernel
theorem dX12_init_147 : decode cX12_init 147 = .ok (.newarray .int, 2) := by decide +kernel
theorem dX12_init_149 : decode cX12_init 149 = .ok (.putfield 68, 3) := by decide +kernel
theorem dX12_init_152 : decode cX12_init 152 = .ok (.aload_n 0, 1) := by decide +kernel
theorem dX12_init_153 : decode cX12_init 153 = .ok (.bipush 8, 2) := by decide +kernel
theorem dX12_init_155 : decode cX12_init 155 = .ok (.newarray .int, 2) := by decide +kernel
theorem dX12_init_157 : decode cX12_init 157 = .ok (.putfield 71, 3) := by decide +kernel
theorem dX12_init_160 : decode cX12_init 160 = .ok (.aload_n 0, 1) := by decide +kernel
theorem dX12_init_161 : decode cX12_init 161 = .ok (.bipush 8, 2) := by decide +kernel
theorem dX12_init_163 : decode cX12_init 163 = .ok (.newarray .int, 2) := by decide +kernel
theorem dX12_init_165 : decode cX12_init 165 = .ok (.putfield 74, 3) := by decide +kernel
theorem dX12_init_168 : decode cX12_init 168 = .ok (.aload_n 0, 1) := by decide +kernel
theorem dX12_init_169 : decode cX12_init 169 = .ok (.bipush 8, 2) := by decide +kernel
theorem dX12_init_171 : decode cX12_init 171 = .ok (.newarray .int, 2) := by decide +kernel
theorem dX12_init_173 : decode cX12_init 173 = .ok (.putfield 77, 3) := by decide +kernel
theorem dX12_init_176 : decode cX12_init 176 = .ok (.aload_n 0, 1) := by decide +kernel
theorem dX12_init_177 : decode cX12_init 177 = .ok (.bipush 8, 2) := by decide +kernel
theorem dX12_init_179 : decode cX12_init 179 = .ok (.newarray .int, 2) := by decide +kernel
theorem dX12_init_181 : decode cX12_init 181 = .ok (.putfield 80, 3) := by decide +kernel
theorem dX12_init_184 : decode cX12_init 184 = .ok (.aload_n 0, 1) := by decide +kernel
theorem dX12_init_185 : decode cX12_init 185 = .ok (.bipush 48, 2) := by decide +kernel
theorem dX12_init_187 : decode cX12_init 187 = .ok (.newarray .int, 2) := by decide +kernel
theorem dX12_init_189 : decode cX12_init 189 = .ok (.putfield 83, 3) := by decide +kernel
theorem dX12_init_192 : decode cX12_init 192 = .ok (.aload_n 0, 1) := by decide +kernel
theorem dX12_init_193 : decode cX12_init 193 = .ok (.bipush 8, 2) := by decide +kernel
theorem dX12_init_195 : decode cX12_init 195 = .ok (.newarray .boolean, 2) := by decide +kernel
theorem dX12_init_197 : decode cX12_init 197 = .ok (.putfield 86, 3) := by decide +kernel
theorem dX12_init_200 : decode cX12_init 200 = .ok (.aload_n 0, 1) := by decide +kernel
theorem dX12_init_201 : decode cX12_init 201 = .ok (.sipush 160, 3) := by decide +kernel
theorem dX12_init_204 : decode cX12_init 204 = .ok (.newarray .byte, 2) := by decide +kernel
theorem dX12_init_206 : decode cX12_init 206 = .ok (.putfield 90, 3) := by decide +kernel
theorem dX12_init_209 : decode cX12_init 209 = .ok (.aload_n 0, 1) := by decide +kernel
theorem dX12_init_210 : decode cX12_init 210 = .ok (.iconst 0, 1) := by decide +kernel
theorem dX12_init_211 : decode cX12_init 211 = .ok (.putfield 94, 3) := by decide +kernel
theorem dX12_init_214 : decode cX12_init 214 = .ok (.aload_n 0, 1) := by decide +kernel
theorem dX12_init_215 : decode cX12_init 215 = .ok (.iconst 1, 1) := by decide +kernel
theorem dX12_init_216 : decode cX12_init 216 = .ok (.putfield 97, 3) := by decide +kernel
theorem dX12_init_219 : decode cX12_init 219 = .ok (.aload_n 0, 1) := by decide +kernel
theorem dX12_init_220 : decode cX12_init 220 = .ok (.iconst 0, 1) := by decide +kernel
theorem dX12_init_221 : decode cX12_init 221 = .ok (.putfield 100, 3) := by decide +kernel
theorem dX12_init_224 : decode cX12_init 224 = .ok (.aload_n 0, 1) := by decide +kernel
theorem dX12_init_225 : decode cX12_init 225 = .ok (.bipush 12, 2) := by decide +kernel
theorem dX12_init_227 : decode cX12_init 227 = .ok (.newarray .int, 2) := by decide +kernel
theorem dX12_init_229 : decode cX12_init 229 = .ok (.putfield 103, 3) := by decide +kernel
theorem dX12_init_232 : decode cX12_init 232 = .ok (.aload_n 0, 1) := by decide +kernel
theorem dX12_init_233 : decode cX12_init 233 = .ok (.sipush 1920, 3) := by decide +kernel
theorem dX12_init_236 : decode cX12_init 236 = .ok (.newarray .int, 2) := by decide +kernel
theorem dX12_init_238 : decode cX12_init 238 = .ok (.putfield 106, 3) := by decide +kernel
theorem dX12_init_241 : decode cX12_init 241 = .ok (.aload_n 0, 1) := by decide +kernel
theorem dX12_init_242 : decode cX12_init 242 = .ok (.iconst 0, 1) := by decide +kernel
theorem dX12_init_243 : decode cX12_init 243 = .ok (.putfield 109, 3) := by decide +kernel
theorem dX12_init_246 : decode cX12_init 246 = .ok (.aload_n 0, 1) := by decide +kernel
theorem dX12_init_247 : decode cX12_init 247 = .ok (.iconst 0, 1) := by decide +kernel
theorem dX12_init_248 : decode cX12_init 248 = .ok (.putfield 112, 3) := by decide +kernel
theorem dX12_init_251 : decode cX12_init 251 = .ok (.aload_n 0, 1) := by decide +kernel
theorem dX12_init_252 : decode cX12_init 252 = .ok (.iconst 0, 1) := by decide +kernel
theorem dX12_init_253 : decode cX12_init 253 = .ok (.putfield 115, 3) := by decide +kernel
theorem dX12_init_256 : decode cX12_init 256 = .ok (.aload_n 0, 1) := by decide +kernel
theorem dX12_init_257 : decode cX12_init 257 = .ok (.iconst 0, 1) := by decide +kernel
theorem dX12_init_258 : decode cX12_init 258 = .ok (.putfield 118, 3) := by decide +kernel
theorem dX12_init_261 : decode cX12_init 261 = .ok (.aload_n 0, 1) := by decide +kernel
theorem dX12_init_262 : decode cX12_init 262 = .ok (.sipush 161, 3) := by decide +kernel
theorem dX12_init_265 : decode cX12_init 265 = .ok (.newarray .int, 2) := by decide +kernel
theorem dX12_init_267 : decode cX12_init 267 = .ok (.putfield 121, 3) := by decide +kernel
theorem dX12_init_270 : decode cX12_init 270 = .ok (.aload_n 0, 1) := by decide +kernel
theorem dX12_init_271 : decode cX12_init 271 = .ok (.bipush 7, 2) := by decide +kernel
theorem dX12_init_273 : decode cX12_init 273 = .ok (.newarray .boolean, 2) := by decide +kernel
theorem dX12_init_275 : decode cX12_init 275 = .ok (.putfield 124, 3) := by decide +kernel
theorem dX12_init_278 : decode cX12_init 278 = .ok (.aload_n 0, 1) := by decide +kernel
theorem dX12_init_279 : decode cX12_init 279 = .ok (.iconst 0, 1) := by decide +kernel
theorem dX12_init_280 : decode cX12_init 280 = .ok (.putfield 127, 3) := by decide +kernel
theorem dX12_init_283 : decode cX12_init 283 = .ok (.aload_n 0, 1) := by decide +kernel
theorem dX12_init_284 : decode cX12_init 284 = .ok (.iconst 0, 1) := by decide +kernel
theorem dX12_init_285 : decode cX12_init 285 = .ok (.putfield 130, 3) := by decide +kernel
theorem dX12_init_288 : decode cX12_init 288 = .ok (.aload_n 0, 1) := by decide +kernel
theorem dX12_init_289 : decode cX12_init 289 = .ok (.iconst 0, 1) := by decide +kernel
theorem dX12_init_290 : decode cX12_init 290 = .ok (.putfield 133, 3) := by decide +kernel
theorem dX12_init_293 : decode cX12_init 293 = .ok (.aload_n 0, 1) := by decide +kernel
theorem dX12_init_294 : decode cX12_init 294 = .ok (.iconst 0, 1) := by decide +kernel
theorem dX12_init_295 : decode cX12_init 295 = .ok (.putfield 136, 3) := by decide +kernel
theorem dX12_init_298 : decode cX12_init 298 = .ok (.aload_n 0, 1) := by decide +kernel
theorem dX12_init_299 : decode cX12_init 299 = .ok (.bipush 6, 2) := by decide +kernel
theorem dX12_init_301 : decode cX12_init 301 = .ok (.newarray .int, 2) := by decide +kernel
theorem dX12_init_303 : decode cX12_init 303 = .ok (.putfield 139, 3) := by decide +kernel
theorem dX12_init_306 : decode cX12_init 306 = .ok (.aload_n 0, 1) := by decide +kernel
theorem dX12_init_307 : decode cX12_init 307 = .ok (.sipush 161, 3) := by decide +kernel
theorem dX12_init_310 : decode cX12_init 310 = .ok (.newarray .int, 2) := by decide +kernel
theorem dX12_init_312 : decode cX12_init 312 = .ok (.putfield 142, 3) := by decide +kernel
theorem dX12_init_315 : decode cX12_init 315 = .ok (.aload_n 0, 1) := by decide +kernel
theorem dX12_init_316 : decode cX12_init 316 = .ok (.iconst 0, 1) := by decide +kernel
theorem dX12_init_317 : decode cX12_init 317 = .ok (.putfield 145, 3) := by decide +kernel
theorem dX12_init_320 : decode cX12_init 320 = .ok (.aload_n 0, 1) := by decide +kernel
theorem dX12_init_321 : decode cX12_init 321 = .ok (.iconst 0, 1) := by decide +kernel
theorem dX12_init_322 : decode cX12_init 322 = .ok (.putfield 148, 3) := by decide +kernel
theorem dX12_init_325 : decode cX12_init 325 = .ok (.aload_n 0, 1) := by decide +kernel
theorem dX12_init_326 : decode cX12_init 326 = .ok (.iconst 0, 1) := by decide +kernel
theorem dX12_init_327 : decode cX12_init 327 = .ok (.putfield 151, 3) := by decide +kernel
theorem dX12_init_330 : decode cX12_init 330 = .ok (.aload_n 0, 1) := by decide +kernel
theorem dX12_init_331 : decode cX12_init 331 = .ok (.sipush 300, 3) := by decide +kernel
theorem dX12_init_334 : decode cX12_init 334 = .ok (.newarray .int, 2) := by decide +kernel
theorem dX12_init_336 : decode cX12_init 336 = .ok (.putfield 154, 3) := by decide +kernel
theorem dX12_init_339 : decode cX12_init 339 = .ok (.aload_n 0, 1) := by decide +kernel
theorem dX12_init_340 : decode cX12_init 340 = .ok (.sipush 300, 3) := by decide +kernel
theorem dX12_init_343 : decode cX12_init 343 = .ok (.newarray .int, 2) := by decide +kernel
theorem dX12_init_345 : decode cX12_init 345 = .ok (.putfield 157, 3) := by decide +kernel
theorem dX12_init_348 : decode cX12_init 348 = .ok (.aload_n 0, 1) := by decide +kernel
theorem dX12_init_349 : decode cX12_init 349 = .ok (.sipush 300, 3) := by decide +kernel
theorem dX12_init_352 : decode cX12_init 352 = .ok (.newarray .int, 2) := by decide +kernel
theorem dX12_init_354 : decode cX12_init 354 = .ok (.putfield 160, 3) := by decide +kernel
theorem dX12_init_357 : decode cX12_init 357 = .ok (.aload_n 0, 1) := by decide +kernel
theorem dX12_init_358 : decode cX12_init 358 = .ok (.bipush 12, 2) := by decide +kernel
theorem dX12_init_360 : decode cX12_init 360 = .ok (.newarray .int, 2) := by decide +kernel
theorem dX12_init_362 : decode cX12_init 362 = .ok (.putfield 163, 3) := by decide +kernel
theorem dX12_init_365 : decode cX12_init 365 = .ok (.aload_n 0, 1) := by decide +kernel
theorem dX12_init_366 : decode cX12_init 366 = .ok (.bipush 12, 2) := by decide +kernel
theorem dX12_init_368 : decode cX12_init 368 = .ok (.newarray .int, 2) := by decide +kernel
theorem dX12_init_370 : decode cX12_init 370 = .ok (.putfield 166, 3) := by decide +kernel
theorem dX12_init_373 : decode cX12_init 373 = .ok (.aload_n 0, 1) := by decide +kernel
theorem dX12_init_374 : decode cX12_init 374 = .ok (.bipush 16, 2) := by decide +kernel
theorem dX12_init_376 : decode cX12_init 376 = .ok (.newarray .int, 2) := by decide +kernel
theorem dX12_init_378 : decode cX12_init 378 = .ok (.putfield 169, 3) := by decide +kernel
theorem dX12_init_381 : decode cX12_init 381 = .ok (.aload_n 0, 1) := by decide +kernel
theorem dX12_init_382 : decode cX12_init 382 = .ok (.bipush 40, 2) := by decide +kernel
theorem dX12_init_384 : decode cX12_init 384 = .ok (.newarray .int, 2) := by decide +kernel
theorem dX12_init_386 : decode cX12_init 386 = .ok (.putfield 172, 3) := by decide +kernel
theorem dX12_init_389 : decode cX12_init 389 = .ok (.aload_n 0, 1) := by decide +kernel
theorem dX12_init_390 : decode cX12_init 390 = .ok (.bipush 8, 2) := by decide +kernel
theorem dX12_init_392 : decode cX12_init 392 = .ok (.newarray .boolean, 2) := by decide +kernel
theorem dX12_init_394 : decode cX12_init 394 = .ok (.putfield 175, 3) := by decide +kernel
theorem dX12_init_397 : decode cX12_init 397 = .ok (.aload_n 0, 1) := by decide +kernel
theorem dX12_init_398 : decode cX12_init 398 = .ok (.iconst 0, 1) := by decide +kernel
theorem dX12_init_399 : decode cX12_init 399 = .ok (.putfield 178, 3) := by decide +kernel
theorem dX12_init_402 : decode cX12_init 402 = .ok (.aload_n 0, 1) := by decide +kernel
theorem dX12_init_403 : decode cX12_init 403 = .ok (.iconst 0, 1) := by decide +kernel
theorem dX12_init_404 : decode cX12_init 404 = .ok (.putfield 181, 3) := by decide +kernel
theorem dX12_init_407 : decode cX12_init 407 = .ok (.aload_n 0, 1) := by decide +kernel
theorem dX12_init_408 : decode cX12_init 408 = .ok (.iconst 0, 1) := by decide +kernel
theorem dX12_init_409 : decode cX12_init 409 = .ok (.putfield 184, 3) := by decide +kernel
theorem dX12_init_412 : decode cX12_init 412 = .ok (.aload_n 0, 1) := by decide +kernel
theorem dX12_init_413 : decode cX12_init 413 = .ok (.iconst 0, 1) := by decide +kernel
theorem dX12_init_414 : decode cX12_init 414 = .ok (.putfield 187, 3) := by decide +kernel
theorem dX12_init_417 : decode cX12_init 417 = .ok (.aload_n 0, 1) := by decide +kernel
theorem dX12_init_418 : decode cX12_init 418 = .ok (.iconst 0, 1) := by decide +kernel
theorem dX12_init_419 : decode cX12_init 419 = .ok (.putfield 190, 3) := by decide +kernel
theorem dX12_init_422 : decode cX12_init 422 = .ok (.aload_n 0, 1) := by decide +kernel
theorem dX12_init_423 : decode cX12_init 423 = .ok (.iconst 0, 1) := by decide +kernel
theorem dX12_init_424 : decode cX12_init 424 = .ok (.putfield 193, 3) := by decide +kernel
theorem dX12_init_427 : decode cX12_init 427 = .ok (.aload_n 0, 1) := by decide +kernel
theorem dX12_init_428 : decode cX12_init 428 = .ok (.bipush 7, 2) := by decide +kernel
theorem dX12_init_430 : decode cX12_init 430 = .ok (.newarray .int, 2) := by decide +kernel
theorem dX12_init_432 : decode cX12_init 432 = .ok (.putfield 196, 3) := by decide +kernel
theorem dX12_init_435 : decode cX12_init 435 = .ok (.aload_n 0, 1) := by decide +kernel
theorem dX12_init_436 : decode cX12_init 436 = .ok (.bipush 31, 2) := by decide +kernel
theorem dX12_init_438 : decode cX12_init 438 = .ok (.newarray .int, 2) := by decide +kernel
theorem dX12_init_440 : decode cX12_init 440 = .ok (.putfield 199, 3) := by decide +kernel
theorem dX12_init_443 : decode cX12_init 443 = .ok (.aload_n 0, 1) := by decide +kernel
theorem dX12_init_444 : decode cX12_init 444 = .ok (.iconst 4, 1) := by decide +kernel
theorem dX12_init_445 : decode cX12_init 445 = .ok (.newarray .int, 2) := by decide +kernel
theorem dX12_init_447 : decode cX12_init 447 = .ok (.dup, 1) := by decide +kernel
theorem dX12_init_448 : decode cX12_init 448 = .ok (.iconst 0, 1) := by decide +kernel
theorem dX12_init_449 : decode cX12_init 449 = .ok (.iconst (-1), 1) := by decide +kernel
theorem dX12_init_450 : decode cX12_init 450 = .ok (.iastore, 1) := by decide +kernel
theorem dX12_init_451 : decode cX12_init 451 = .ok (.dup, 1) := by decide +kernel
theorem dX12_init_452 : decode cX12_init 452 = .ok (.iconst 1, 1) := by decide +kernel
theorem dX12_init_453 : decode cX12_init 453 = .ok (.iconst (-1), 1) := by decide +kernel
theorem dX12_init_454 : decode cX12_init 454 = .ok (.iastore, 1) := by decide +kernel
theorem dX12_init_455 : decode cX12_init 455 = .ok (.dup, 1) := by decide +kernel
theorem dX12_init_456 : decode cX12_init 456 = .ok (.iconst 2, 1) := by decide +kernel
theorem dX12_init_457 : decode cX12_init 457 = .ok (.iconst (-1), 1) := by decide +kernel
theorem dX12_init_458 : decode cX12_init 458 = .ok (.iastore, 1) := by decide +kernel
theorem dX12_init_459 : decode cX12_init 459 = .ok (.dup, 1) := by decide +kernel
theorem dX12_init_460 : decode cX12_init 460 = .ok (.iconst 3, 1) := by decide +kernel
theorem dX12_init_461 : decode cX12_init 461 = .ok (.iconst (-1), 1) := by decide +kernel
theorem dX12_init_462 : decode cX12_init 462 = .ok (.iastore, 1) := by decide +kernel
theorem dX12_init_463 : decode cX12_init 463 = .ok (.putfield 202, 3) := by decide +kernel
theorem dX12_init_466 : decode cX12_init 466 = .ok (.aload_n 0, 1) := by decide +kernel
theorem dX12_init_467 : decode cX12_init 467 = .ok (.iconst 4, 1) := by decide +kernel
theorem dX12_init_468 : decode cX12_init 468 = .ok (.newarray .int, 2) := by decide +kernel
theorem dX12_init_470 : decode cX12_init 470 = .ok (.putfield 205, 3) := by decide +kernel
theorem dX12_init_473 : decode cX12_init 473 = .ok (.aload_n 0, 1) := by decide +kernel
theorem dX12_init_474 : decode cX12_init 474 = .ok (.sipush 160, 3) := by decide +kernel
theorem dX12_init_477 : decode cX12_init 477 = .ok (.newarray .int, 2) := by decide +kernel
theorem dX12_init_479 : decode cX12_init 479 = .ok (.putfield 208, 3) := by decide +kernel
theorem dX12_init_482 : decode cX12_init 482 = .ok (.aload_n 0, 1) := by decide +kernel
theorem dX12_init_483 : decode cX12_init 483 = .ok (.bipush 6, 2) := by decide +kernel
theorem dX12_init_485 : decode cX12_init 485 = .ok (.iload_n 1, 1) := by decide +kernel
theorem dX12_init_486 : decode cX12_init 486 = .ok (.bipush 7, 2) := by decide +kernel
theorem dX12_init_488 : decode cX12_init 488 = .ok (.irem, 1) := by decide +kernel
theorem dX12_init_489 : decode cX12_init 489 = .ok (.bipush 7, 2) := by decide +kernel
theorem dX12_init_491 : decode cX12_init 491 = .ok (.iadd, 1) := by decide +kernel
theorem dX12_init_492 : decode cX12_init 492 = .ok (.bipush 7, 2) := by decide +kernel
theorem dX12_init_494 : decode cX12_init 494 = .ok (.irem, 1) := by decide +kernel
theorem dX12_init_495 : decode cX12_init 495 = .ok (.iadd, 1) := by decide +kernel
theorem dX12_init_496 : decode cX12_init 496 = .ok (.putfield 211, 3) := by decide +kernel
theorem dX12_init_499 : decode cX12_init 499 = .ok (.iconst 0, 1) := by decide +kernel
theorem dX12_init_500 : decode cX12_init 500 = .ok (.istore_n 2, 1) := by decide +kernel
theorem dX12_init_501 : decode cX12_init 501 = .ok (.iload_n 2, 1) := by decide +kernel
theorem dX12_init_502 : decode cX12_init 502 = .ok (.bipush 6, 2) := by decide +kernel
theorem dX12_init_504 : decode cX12_init 504 = .ok (.if_icmp .ge 26, 3) := by decide +kernel
theorem dX12_init_507 : decode cX12_init 507 = .ok (.aload_n 0, 1) := by decide +kernel
theorem dX12_init_508 : decode cX12_init 508 = .ok (.getfield 22, 3) := by decide +kernel
theorem dX12_init_511 : decode cX12_init 511 = .ok (.iload_n 2, 1) := by decide +kernel
theorem dX12_init_512 : decode cX12_init 512 = .ok (.iload_n 2, 1) := by decide +kernel
theorem dX12_init_513 : decode cX12_init 513 = .ok (.iconst 5, 1) := by decide +kernel
theorem dX12_init_514 : decode cX12_init 514 = .ok (.irem, 1) := by decide +kernel
theorem dX12_init_515 : decode cX12_init 515 = .ok (.iastore, 1) := by decide +kernel
theorem dX12_init_516 : decode cX12_init 516 = .ok (.aload_n 0, 1) := by decide +kernel
theorem dX12_init_517 : decode cX12_init 517 = .ok (.getfield 26, 3) := by decide +kernel
theorem dX12_init_520 : decode cX12_init 520 = .ok (.iload_n 2, 1) := by decide +kernel
theorem dX12_init_521 : decode cX12_init 521 = .ok (.bipush 20, 2) := by decide +kernel
theorem dX12_init_523 : decode cX12_init 523 = .ok (.iastore, 1) := by decide +kernel
theorem dX12_init_524 : decode cX12_init 524 = .ok (.iinc 2 1, 3) := by decide +kernel
theorem dX12_init_527 : decode cX12_init 527 = .ok (.goto (-26), 3) := by decide +kernel
theorem dX12_init_530 : decode cX12_init 530 = .ok (.iconst 0, 1) := by decide +kernel
theorem dX12_init_531 : decode cX12_init 531 = .ok (.istore_n 2, 1) := by decide +kernel
theorem dX12_init_532 : decode cX12_init 532 = .ok (.iload_n 2, 1) := by decide +kernel
theorem dX12_init_533 : decode cX12_init 533 = .ok (.iconst 5, 1) := by decide +kernel
theorem dX12_init_534 : decode cX12_init 534 = .ok (.if_icmp .ge 17, 3) := by decide +kernel
theorem dX12_init_537 : decode cX12_init 537 = .ok (.aload_n 0, 1) := by decide +kernel
theorem dX12_init_538 : decode cX12_init 538 = .ok (.getfield 29, 3) := by decide +kernel
theorem dX12_init_541 : decode cX12_init 541 = .ok (.iload_n 2, 1) := by decide +kernel
theorem dX12_init_542 : decode cX12_init 542 = .ok (.bipush 100, 2) := by decide +kernel
theorem dX12_init_544 : decode cX12_init 544 = .ok (.iastore, 1) := by decide +kernel
theorem dX12_init_545 : decode cX12_init 545 = .ok (.iinc 2 1, 3) := by decide +kernel
theorem dX12_init_548 : decode cX12_init 548 = .ok (.goto (-16), 3) := by decide +kernel
theorem dX12_init_551 : decode cX12_init 551 = .ok (.iconst 0, 1) := by decide +kernel
theorem dX12_init_552 : decode cX12_init 552 = .ok (.istore_n 2, 1) := by decide +kernel
theorem dX12_init_553 : decode cX12_init 553 = .ok (.iload_n 2, 1) := by decide +kernel
theorem dX12_init_554 : decode cX12_init 554 = .ok (.bipush 12, 2) := by decide +kernel
theorem dX12_init_556 : decode cX12_init 556 = .ok (.if_icmp .ge 23, 3) := by decide +kernel
theorem dX12_init_559 : decode cX12_init 559 = .ok (.aload_n 0, 1) := by decide +kernel
theorem dX12_init_560 : decode cX12_init 560 = .ok (.getfield 47, 3) := by decide +kernel
theorem dX12_init_563 : decode cX12_init 563 = .ok (.iload_n 2, 1) := by decide +kernel
theorem dX12_init_564 : decode cX12_init 564 = .ok (.iconst (-1), 1) := by decide +kernel
theorem dX12_init_565 : decode cX12_init 565 = .ok (.iastore, 1) := by decide +kernel
theorem dX12_init_566 : decode cX12_init 566 = .ok (.aload_n 0, 1) := by decide +kernel
theorem dX12_init_567 : decode cX12_init 567 = .ok (.getfield 50, 3) := by decide +kernel
theorem dX12_init_570 : decode cX12_init 570 = .ok (.iload_n 2, 1) := by decide +kernel
theorem dX12_init_571 : decode cX12_init 571 = .ok (.iconst (-1), 1) := by decide +kernel
theorem dX12_init_572 : decode cX12_init 572 = .ok (.iastore, 1) := by decide +kernel
theorem dX12_init_573 : decode cX12_init 573 = .ok (.iinc 2 1, 3) := by decide +kernel
theorem dX12_init_576 : decode cX12_init 576 = .ok (.goto (-23), 3) := by decide +kernel
theorem dX12_init_579 : decode cX12_init 579 = .ok (.aload_n 0, 1) := by decide +kernel
theorem dX12_init_580 : decode cX12_init 580 = .ok (.invokevirtual 214, 3) := by decide +kernel
theorem dX12_init_583 : decode cX12_init 583 = .ok (.return_, 1) := by decide +kernel
theorem dX12_isDish_0 : decode cX12_isDish 0 = .ok (.aload_n 0, 1) := by decide +kernel
theorem dX12_isDish_1 : decode cX12_isDish 1 = .ok (.iload_n 1, 1) := by decide +kernel
theorem dX12_isDish_2 : decode cX12_isDish 2 = .ok (.iconst 0, 1) := by decide +kernel
theorem dX12_isDish_3 : decode cX12_isDish 3 = .ok (.iconst 5, 1) := by decide +kernel
theorem dX12_isDish_4 : decode cX12_isDish 4 = .ok (.invokevirtual 217, 3) := by decide +kernel
theorem dX12_isDish_7 : decode cX12_isDish 7 = .ok (.ireturn, 1) := by decide +kernel
theorem dX12_isPlace_0 : decode cX12_isPlace 0 = .ok (.aload_n 0, 1) := by decide +kernel
theorem dX12_isPlace_1 : decode cX12_isPlace 1 = .ok (.iload_n 1, 1) := by decide +kernel
theorem dX12_isPlace_2 : decode cX12_isPlace 2 = .ok (.iconst 0, 1) := by decide +kernel
theorem dX12_isPlace_3 : decode cX12_isPlace 3 = .ok (.aload_n 0, 1) := by decide +kernel
theorem dX12_isPlace_4 : decode cX12_isPlace 4 = .ok (.getfield 211, 3) := by decide +kernel
theorem dX12_isPlace_7 : decode cX12_isPlace 7 = .ok (.iconst 1, 1) := by decide +kernel
theorem dX12_isPlace_8 : decode cX12_isPlace 8 = .ok (.isub, 1) := by decide +kernel
theorem dX12_isPlace_9 : decode cX12_isPlace 9 = .ok (.invokevirtual 217, 3) := by decide +kernel
theorem dX12_isPlace_12 : decode cX12_isPlace 12 = .ok (.ireturn, 1) := by decide +kernel
theorem dX12_isPlate_0 : decode cX12_isPlate 0 = .ok (.aload_n 0, 1) := by decide +kernel
theorem dX12_isPlate_1 : decode cX12_isPlate 1 = .ok (.iload_n 1, 1) := by decide +kernel
theorem dX12_isPlate_2 : decode cX12_isPlate 2 = .ok (.iconst 0, 1) := by decide +kernel
theorem dX12_isPlate_3 : decode cX12_isPlate 3 = .ok (.aload_n 0, 1) := by decide +kernel
theorem dX12_isPlate_4 : decode cX12_isPlate 4 = .ok (.getfield 7, 3) := by decide +kernel
theorem dX12_isPlate_7 : decode cX12_isPlate 7 = .ok (.iconst 1, 1) := by decide +kernel
theorem dX12_isPlate_8 : decode cX12_isPlate 8 = .ok (.isub, 1) := by decide +kernel
theorem dX12_isPlate_9 : decode cX12_isPlate 9 = .ok (.invokevirtual 217, 3) := by decide +kernel
theorem dX12_isPlate_12 : decode cX12_isPlate 12 = .ok (.ireturn, 1) := by decide +kernel
theorem dX12_dish_0 : decode cX12_dish 0 = .ok (.aload_n 0, 1) := by decide +kernel
theorem dX12_dish_1 : decode cX12_dish 1 = .ok (.iload_n 1, 1) := by decide +kernel
theorem dX12_dish_2 : decode cX12_dish 2 = .ok (.invokevirtual 221, 3) := by decide +kernel
theorem dX12_dish_5 : decode cX12_dish 5 = .ok (.ifCond .eq 24, 3) := by decide +kernel
theorem dX12_dish_8 : decode cX12_dish 8 = .ok (.aload_n 0, 1) := by decide +kernel
theorem dX12_dish_9 : decode cX12_dish 9 = .ok (.iload_n 2, 1) := by decide +kernel
theorem dX12_dish_10 : decode cX12_dish 10 = .ok (.iconst 0, 1) := by decide +kernel
theorem dX12_dish_11 : decode cX12_dish 11 = .ok (.iconst 4, 1) := by decide +kernel
theorem dX12_dish_12 : decode cX12_dish 12 = .ok (.invokevirtual 217, 3) := by decide +kernel
theorem dX12_dish_15 : decode cX12_dish 15 = .ok (.ifCond .eq 14, 3) := by decide +kernel
theorem dX12_dish_18 : decode cX12_dish 18 = .ok (.aload_n 0, 1) := by decide +kernel
theorem dX12_dish_19 : decode cX12_dish 19 = .ok (.iload_n 3, 1) := by decide +kernel
theorem dX12_dish_20 : decode cX12_dish 20 = .ok (.iconst 1, 1) := by decide +kernel
theorem dX12_dish_21 : decode cX12_dish 21 = .ok (.bipush 60, 2) := by decide +kernel
theorem dX12_dish_23 : decode cX12_dish 23 = .ok (.invokevirtual 217, 3) := by decide +kernel
theorem dX12_dish_26 : decode cX12_dish 26 = .ok (.ifCond .ne 6, 3) := by decide +kernel
theorem dX12_dish_29 : decode cX12_dish 29 = .ok (.bipush (-2), 2) := by decide +kernel
theorem dX12_dish_31 : decode cX12_dish 31 = .ok (.ireturn, 1) := by decide +kernel
theorem dX12_dish_32 : decode cX12_dish 32 = .ok (.aload_n 0, 1) := by decide +kernel
theorem dX12_dish_33 : decode cX12_dish 33 = .ok (.getfield 22, 3) := by decide +kernel
theorem dX12_dish_36 : decode cX12_dish 36 = .ok (.iload_n 1, 1) := by decide +kernel
theorem dX12_dish_37 : decode cX12_dish 37 = .ok (.iaload, 1) := by decide +kernel
theorem dX12_dish_38 : decode cX12_dish 38 = .ok (.istore 4, 2) := by decide +kernel
theorem dX12_dish_40 : decode cX12_dish 40 = .ok (.aload_n 0, 1) := by decide +kernel
theorem dX12_dish_41 : decode cX12_dish 41 = .ok (.getfield 22, 3) := by decide +kernel
theorem dX12_dish_44 : decode cX12_dish 44 = .ok (.iload_n 1, 1) := by decide +kernel
theorem dX12_dish_45 : decode cX12_dish 45 = .ok (.iload_n 2, 1) := by decide +kernel
theorem dX12_dish_46 : decode cX12_dish 46 = .ok (.iastore, 1) := by decide +kernel
theorem dX12_dish_47 : decode cX12_dish 47 = .ok (.aload_n 0, 1) := by decide +kernel
theorem dX12_dish_48 : decode cX12_dish 48 = .ok (.getfield 26, 3) := by decide +kernel
theorem dX12_dish_51 : decode cX12_dish 51 = .ok (.iload_n 1, 1) := by decide +kernel
theorem dX12_dish_52 : decode cX12_dish 52 = .ok (.iload_n 3, 1) := by decide +kernel
theorem dX12_dish_53 : decode cX12_dish 53 = .ok (.iastore, 1) := by decide +kernel
theorem dX12_dish_54 : decode cX12_dish 54 = .ok (.iload 4, 2) := by decide +kernel
theorem dX12_dish_56 : decode cX12_dish 56 = .ok (.ireturn, 1) := by decide +kernel
theorem dX12_price_0 : decode cX12_price 0 = .ok (.aload_n 0, 1) := by decide +kernel
theorem dX12_price_1 : decode cX12_price 1 = .ok (.iload_n 1, 1) := by decide +kernel
theorem dX12_price_2 : decode cX12_price 2 = .ok (.iconst 0, 1) := by decide +kernel
theorem dX12_price_3 : decode cX12_price 3 = .ok (.iconst 4, 1) := by decide +kernel
theorem dX12_price_4 : decode cX12_price 4 = .ok (.invokevirtual 217, 3) := by decide +kernel
theorem dX12_price_7 : decode cX12_price 7 = .ok (.ifCond .eq 15, 3) := by decide +kernel
theorem dX12_price_10 : decode cX12_price 10 = .ok (.aload_n 0, 1) := by decide +kernel
theorem dX12_price_11 : decode cX12_price 11 = .ok (.iload_n 2, 1) := by decide +kernel
theorem dX12_price_12 : decode cX12_price 12 = .ok (.iconst 0, 1) := by decide +kernel
theorem dX12_price_13 : decode cX12_price 13 = .ok (.sipush 999, 3) := by decide +kernel
theorem dX12_price_16 : decode cX12_price 16 = .ok (.invokevirtual 217, 3) := by decide +kernel
theorem dX12_price_19 : decode cX12_price 19 = .ok (.ifCond .ne 6, 3) := by decide +kernel
theorem dX12_price_22 : decode cX12_price 22 = .ok (.bipush (-2), 2) := by decide +kernel
theorem dX12_price_24 : decode cX12_price 24 = .ok (.ireturn, 1) := by decide +kernel
theorem dX12_price_25 : decode cX12_price 25 = .ok (.aload_n 0, 1) := by decide +kernel
theorem dX12_price_26 : decode cX12_price 26 = .ok (.getfield 29, 3) := by decide +kernel
theorem dX12_price_29 : decode cX12_price 29 = .ok (.iload_n 1, 1) := by decide +kernel
theorem dX12_price_30 : decode cX12_price 30 = .ok (.iaload, 1) := by decide +kernel
theorem dX12_price_31 : decode cX12_price 31 = .ok (.istore_n 3, 1) := by decide +kernel
theorem dX12_price_32 : decode cX12_price 32 = .ok (.aload_n 0, 1) := by decide +kernel
theorem dX12_price_33 : decode cX12_price 33 = .ok (.getfield 29, 3) := by decide +kernel
theorem dX12_price_36 : decode cX12_price 36 = .ok (.iload_n 1, 1) := by decide +kernel
theorem dX12_price_37 : decode cX12_price 37 = .ok (.iload_n 2, 1) := by decide +kernel
theorem dX12_price_38 : decode cX12_price 38 = .ok (.iastore, 1) := by decide +kernel
theorem dX12_price_39 : decode cX12_price 39 = .ok (.iload_n 3, 1) := by decide +kernel
theorem dX12_price_40 : decode cX12_price 40 = .ok (.ireturn, 1) := by decide +kernel
theorem dX12_makes_0 : decode cX12_makes 0 = .ok (.aload_n 0, 1) := by decide +kernel
theorem dX12_makes_1 : decode cX12_makes 1 = .ok (.getfield 32, 3) := by decide +kernel
theorem dX12_makes_4 : decode cX12_makes 4 = .ok (.aload_n 0, 1) := by decide +kernel
theorem dX12_makes_5 : decode cX12_makes 5 = .ok (.getfield 7, 3) := by decide +kernel
theorem dX12_makes_8 : decode cX12_makes 8 = .ok (.iload_n 1, 1) := by decide +kernel
theorem dX12_makes_9 : decode cX12_makes 9 = .ok (.iastore, 1) := by decide +kernel
theorem dX12_makes_10 : decode cX12_makes 10 = .ok (.aload_n 0, 1) := by decide +kernel
theorem dX12_makes_11 : decode cX12_makes 11 = .ok (.getfield 35, 3) := by decide +kernel
theorem dX12_makes_14 : decode cX12_makes 14 = .ok (.aload_n 0, 1) := by decide +kernel
theorem dX12_makes_15 : decode cX12_makes 15 = .ok (.getfield 7, 3) := by decide +kernel
theorem dX12_makes_18 : decode cX12_makes 18 = .ok (.aload_n 0, 1) := by decide +kernel
theorem dX12_makes_19 : decode cX12_makes 19 = .ok (.getfield 22, 3) := by decide +kernel
theorem dX12_makes_22 : decode cX12_makes 22 = .ok (.iload_n 1, 1) := by decide +kernel
theorem dX12_makes_23 : decode cX12_makes 23 = .ok (.iaload, 1) := by decide +kernel
theorem dX12_makes_24 : decode cX12_makes 24 = .ok (.iastore, 1) := by decide +kernel
theorem dX12_makes_25 : decode cX12_makes 25 = .ok (.aload_n 0, 1) := by decide +kernel
theorem dX12_makes_26 : decode cX12_makes 26 = .ok (.getfield 38, 3) := by decide +kernel
theorem dX12_makes_29 : decode cX12_makes 29 = .ok (.aload_n 0, 1) := by decide +kernel
theorem dX12_makes_30 : decode cX12_makes 30 = .ok (.getfield 7, 3) := by decide +kernel
theorem dX12_makes_33 : decode cX12_makes 33 = .ok (.iconst 0, 1) := by decide +kernel
theorem dX12_makes_34 : decode cX12_makes 34 = .ok (.iastore, 1) := by decide +kernel
theorem dX12_makes_35 : decode cX12_makes 35 = .ok (.aload_n 0, 1) := by decide +kernel
theorem dX12_makes_36 : decode cX12_makes 36 = .ok (.getfield 41, 3) := by decide +kernel
theorem dX12_makes_39 : decode cX12_makes 39 = .ok (.aload_n 0, 1) := by decide +kernel
theorem dX12_makes_40 : decode cX12_makes 40 = .ok (.getfield 7, 3) := by decide +kernel
theorem dX12_makes_43 : decode cX12_makes 43 = .ok (.iload_n 2, 1) := by decide +kernel
theorem dX12_makes_44 : decode cX12_makes 44 = .ok (.iastore, 1) := by decide +kernel
theorem dX12_makes_45 : decode cX12_makes 45 = .ok (.aload_n 0, 1) := by decide +kernel
theorem dX12_makes_46 : decode cX12_makes 46 = .ok (.getfield 44, 3) := by decide +kernel
theorem dX12_makes_49 : decode cX12_makes 49 = .ok (.aload_n 0, 1) := by decide +kernel
theorem dX12_makes_50 : decode cX12_makes 50 = .ok (.getfield 7, 3) := by decide +kernel
theorem dX12_makes_53 : decode cX12_makes 53 = .ok (.iload_n 3, 1) := by decide +kernel
theorem dX12_makes_54 : decode cX12_makes 54 = .ok (.iastore, 1) := by decide +kernel
theorem dX12_makes_55 : decode cX12_makes 55 = .ok (.aload_n 0, 1) := by decide +kernel
theorem dX12_makes_56 : decode cX12_makes 56 = .ok (.dup, 1) := by decide +kernel
theorem dX12_makes_57 : decode cX12_makes 57 = .ok (.getfield 7, 3) := by decide +kernel
theorem dX12_makes_60 : decode cX12_makes 60 = .ok (.iconst 1, 1) := by decide +kernel
theorem dX12_makes_61 : decode cX12_makes 61 = .ok (.iadd, 1) := by decide +kernel
theorem dX12_makes_62 : decode cX12_makes 62 = .ok (.putfield 7, 3) := by decide +kernel
theorem dX12_makes_65 : decode cX12_makes 65 = .ok (.aload_n 0, 1) := by decide +kernel
theorem dX12_makes_66 : decode cX12_makes 66 = .ok (.getfield 7, 3) := by decide +kernel
theorem dX12_makes_69 : decode cX12_makes 69 = .ok (.iconst 1, 1) := by decide +kernel
theorem dX12_makes_70 : decode cX12_makes 70 = .ok (.isub, 1) := by decide +kernel
theorem dX12_makes_71 : decode cX12_makes 71 = .ok (.ireturn, 1) := by decide +kernel
theorem dX12_lay_0 : decode cX12_lay 0 = .ok (.aload_n 0, 1) := by decide +kernel
theorem dX12_lay_1 : decode cX12_lay 1 = .ok (.iload_n 1, 1) := by decide +kernel
theorem dX12_lay_2 : decode cX12_lay 2 = .ok (.invokevirtual 221, 3) := by decide +kernel
theorem dX12_lay_5 : decode cX12_lay 5 = .ok (.ifCond .ne 6, 3) := by decide +kernel
theorem dX12_lay_8 : decode cX12_lay 8 = .ok (.bipush (-2), 2) := by decide +kernel
theorem dX12_lay_10 : decode cX12_lay 10 = .ok (.ireturn, 1) := by decide +kernel
theorem dX12_lay_11 : decode cX12_lay 11 = .ok (.aload_n 0, 1) := by decide +kernel
theorem dX12_lay_12 : decode cX12_lay 12 = .ok (.getfield 47, 3) := by decide +kernel
theorem dX12_lay_15 : decode cX12_lay 15 = .ok (.iconst 0, 1) := by decide +kernel
theorem dX12_lay_16 : decode cX12_lay 16 = .ok (.iaload, 1) := by decide +kernel
theorem dX12_lay_17 : decode cX12_lay 17 = .ok (.ifCond .lt 6, 3) := by decide +kernel
theorem dX12_lay_20 : decode cX12_lay 20 = .ok (.bipush (-3), 2) := by decide +kernel
theorem dX12_lay_22 : decode cX12_lay 22 = .ok (.ireturn, 1) := by decide +kernel
theorem dX12_lay_23 : decode cX12_lay 23 = .ok (.aload_n 0, 1) := by decide +kernel
theorem dX12_lay_24 : decode cX12_lay 24 = .ok (.getfield 7, 3) := by decide +kernel
theorem dX12_lay_27 : decode cX12_lay 27 = .ok (.sipush 300, 3) := by decide +kernel
theorem dX12_lay_30 : decode cX12_lay 30 = .ok (.if_icmp .ne 6, 3) := by decide +kernel
theorem dX12_lay_33 : decode cX12_lay 33 = .ok (.bipush (-4), 2) := by decide +kernel
theorem dX12_lay_35 : decode cX12_lay 35 = .ok (.ireturn, 1) := by decide +kernel
theorem dX12_lay_36 : decode cX12_lay 36 = .ok (.aload_n 0, 1) := by decide +kernel
theorem dX12_lay_37 : decode cX12_lay 37 = .ok (.getfield 47, 3) := by decide +kernel
theorem dX12_lay_40 : decode cX12_lay 40 = .ok (.iconst 0, 1) := by decide +kernel
theorem dX12_lay_41 : decode cX12_lay 41 = .ok (.aload_n 0, 1) := by decide +kernel
theorem dX12_lay_42 : decode cX12_lay 42 = .ok (.iload_n 1, 1) := by decide +kernel
theorem dX12_lay_43 : decode cX12_lay 43 = .ok (.iconst 0, 1) := by decide +kernel
theorem dX12_lay_44 : decode cX12_lay 44 = .ok (.iconst 0, 1) := by decide +kernel
theorem dX12_lay_45 : decode cX12_lay 45 = .ok (.invokevirtual 225, 3) := by decide +kernel
theorem dX12_lay_48 : decode cX12_lay 48 = .ok (.iastore, 1) := by decide +kernel
theorem dX12_lay_49 : decode cX12_lay 49 = .ok (.aload_n 0, 1) := by decide +kernel
theorem dX12_lay_50 : decode cX12_lay 50 = .ok (.getfield 7, 3) := by decide +kernel
theorem dX12_lay_53 : decode cX12_lay 53 = .ok (.iconst 1, 1) := by decide +kernel
theorem dX12_lay_54 : decode cX12_lay 54 = .ok (.isub, 1) := by decide +kernel
theorem dX12_lay_55 : decode cX12_lay 55 = .ok (.ireturn, 1) := by decide +kernel
theorem dX12_plate_0 : decode cX12_plate 0 = .ok (.aload_n 0, 1) := by decide +kernel
theorem dX12_plate_1 : decode cX12_plate 1 = .ok (.iload_n 1, 1) := by decide +kernel
theorem dX12_plate_2 : decode cX12_plate 2 = .ok (.invokevirtual 229, 3) := by decide +kernel
theorem dX12_plate_5 : decode cX12_plate 5 = .ok (.ifCond .eq 13, 3) := by decide +kernel
theorem dX12_plate_8 : decode cX12_plate 8 = .ok (.aload_n 0, 1) := by decide +kernel
theorem dX12_plate_9 : decode cX12_plate 9 = .ok (.iload_n 2, 1) := by decide +kernel
theorem dX12_plate_10 : decode cX12_plate 10 = .ok (.iconst 0, 1) := by decide +kernel
theorem dX12_plate_11 : decode cX12_plate 11 = .ok (.iconst 4, 1) := by decide +kernel
theorem dX12_plate_12 : decode cX12_plate 12 = .ok (.invokevirtual 217, 3) := by decide +kernel
theorem dX12_plate_15 : decode cX12_plate 15 = .ok (.ifCond .ne 6, 3) := by decide +kernel
theorem dX12_plate_18 : decode cX12_plate 18 = .ok (.bipush (-2), 2) := by decide +kernel
theorem dX12_plate_20 : decode cX12_plate 20 = .ok (.ireturn, 1) := by decide +kernel
theorem dX12_plate_21 : decode cX12_plate 21 = .ok (.iload_n 2, 1) := by decide +kernel
theorem dX12_plate_22 : decode cX12_plate 22 = .ok (.ifCond .ne 12, 3) := by decide +kernel
theorem dX12_plate_25 : decode cX12_plate 25 = .ok (.aload_n 0, 1) := by decide +kernel
theorem dX12_plate_26 : decode cX12_plate 26 = .ok (.getfield 32, 3) := by decide +kernel
theorem dX12_plate_29 : decode cX12_plate 29 = .ok (.iload_n 1, 1) := by decide +kernel
theorem dX12_plate_30 : decode cX12_plate 30 = .ok (.iaload, 1) := by decide +kernel
theorem dX12_plate_31 : decode cX12_plate 31 = .ok (.goto 51, 3) := by decide +kernel
theorem dX12_plate_34 : decode cX12_plate 34 = .ok (.iload_n 2, 1) := by decide +kernel
theorem dX12_plate_35 : decode cX12_plate 35 = .ok (.iconst 1, 1) := by decide +kernel
theorem dX12_plate_36 : decode cX12_plate 36 = .ok (.if_icmp .ne 12, 3) := by decide +kernel
theorem dX12_plate_39 : decode cX12_plate 39 = .ok (.aload_n 0, 1) := by decide +kernel
theorem dX12_plate_40 : decode cX12_plate 40 = .ok (.getfield 35, 3) := by decide +kernel
theorem dX12_plate_43 : decode cX12_plate 43 = .ok (.iload_n 1, 1) := by decide +kernel
theorem dX12_plate_44 : decode cX12_plate 44 = .ok (.iaload, 1) := by decide +kernel
theorem dX12_plate_45 : decode cX12_plate 45 = .ok (.goto 37, 3) := by decide +kernel
theorem dX12_plate_48 : decode cX12_plate 48 = .ok (.iload_n 2, 1) := by decide +kernel
theorem dX12_plate_49 : decode cX12_plate 49 = .ok (.iconst 2, 1) := by decide +kernel
theorem dX12_plate_50 : decode cX12_plate 50 = .ok (.if_icmp .ne 12, 3) := by decide +kernel
theorem dX12_plate_53 : decode cX12_plate 53 = .ok (.aload_n 0, 1) := by decide +kernel
theorem dX12_plate_54 : decode cX12_plate 54 = .ok (.getfield 38, 3) := by decide +kernel
theorem dX12_plate_57 : decode cX12_plate 57 = .ok (.iload_n 1, 1) := by decide +kernel
theorem dX12_plate_58 : decode cX12_plate 58 = .ok (.iaload, 1) := by decide +kernel
theorem dX12_plate_59 : decode cX12_plate 59 = .ok (.goto 23, 3) := by decide +kernel
theorem dX12_plate_62 : decode cX12_plate 62 = .ok (.iload_n 2, 1) := by decide +kernel
theorem dX12_plate_63 : decode cX12_plate 63 = .ok (.iconst 3, 1) := by decide +kernel
theorem dX12_plate_64 : decode cX12_plate 64 = .ok (.if_icmp .ne 12, 3) := by decide +kernel
theorem dX12_plate_67 : decode cX12_plate 67 = .ok (.aload_n 0, 1) := by decide +kernel
theorem dX12_plate_68 : decode cX12_plate 68 = .ok (.getfield 41, 3) := by decide +kernel
theorem dX12_plate_71 : decode cX12_plate 71 = .ok (.iload_n 1, 1) := by decide +kernel
theorem dX12_plate_72 : decode cX12_plate 72 = .ok (.iaload, 1) := by decide +kernel
theorem dX12_plate_73 : decode cX12_plate 73 = .ok (.goto 9, 3) := by decide +kernel
theorem dX12_plate_76 : decode cX12_plate 76 = .ok (.aload_n 0, 1) := by decide +kernel
theorem dX12_plate_77 : decode cX12_plate 77 = .ok (.getfield 44, 3) := by decide +kernel
theorem dX12_plate_80 : decode cX12_plate 80 = .ok (.iload_n 1, 1) := by decide +kernel
theorem dX12_plate_81 : decode cX12_plate 81 = .ok (.iaload, 1) := by decide +kernel
theorem dX12_plate_82 : decode cX12_plate 82 = .ok (.ireturn, 1) := by decide +kernel
theorem dX12_at_0 : decode cX12_at 0 = .ok (.aload_n 0, 1) := by decide +kernel
theorem dX12_at_1 : decode cX12_at 1 = .ok (.iload_n 1, 1) := by decide +kernel
theorem dX12_at_2 : decode cX12_at 2 = .ok (.invokevirtual 232, 3) := by decide +kernel
theorem dX12_at_5 : decode cX12_at 5 = .ok (.ifCond .eq 12, 3) := by decide +kernel
theorem dX12_at_8 : decode cX12_at 8 = .ok (.aload_n 0, 1) := by decide +kernel
theorem dX12_at_9 : decode cX12_at 9 = .ok (.getfield 47, 3) := by decide +kernel
theorem dX12_at_12 : decode cX12_at 12 = .ok (.iload_n 1, 1) := by decide +kernel
theorem dX12_at_13 : decode cX12_at 13 = .ok (.iaload, 1) := by decide +kernel
theorem dX12_at_14 : decode cX12_at 14 = .ok (.goto 5, 3) := by decide +kernel
theorem dX12_at_17 : decode cX12_at 17 = .ok (.bipush (-2), 2) := by decide +kernel
theorem dX12_at_19 : decode cX12_at 19 = .ok (.ireturn, 1) := by decide +kernel
theorem dX12_ends_0 : decode cX12_ends 0 = .ok (.aload_n 0, 1) := by decide +kernel
theorem dX12_ends_1 : decode cX12_ends 1 = .ok (.getfield 41, 3) := by decide +kernel
theorem dX12_ends_4 : decode cX12_ends 4 = .ok (.iload_n 1, 1) := by decide +kernel
theorem dX12_ends_5 : decode cX12_ends 5 = .ok (.iload_n 2, 1) := by decide +kernel
theorem dX12_ends_6 : decode cX12_ends 6 = .ok (.iastore, 1) := by decide +kernel
theorem dX12_ends_7 : decode cX12_ends 7 = .ok (.aload_n 0, 1) := by decide +kernel
theorem dX12_ends_8 : decode cX12_ends 8 = .ok (.getfield 44, 3) := by decide +kernel
theorem dX12_ends_11 : decode cX12_ends 11 = .ok (.iload_n 1, 1) := by decide +kernel
theorem dX12_ends_12 : decode cX12_ends 12 = .ok (.iconst (-1), 1) := by decide +kernel
theorem dX12_ends_13 : decode cX12_ends 13 = .ok (.iastore, 1) := by decide +kernel
theorem dX12_ends_14 : decode cX12_ends 14 = .ok (.return_, 1) := by decide +kernel
theorem dX12_gone_0 : decode cX12_gone 0 = .ok (.aload_n 0, 1) := by decide +kernel
theorem dX12_gone_1 : decode cX12_gone 1 = .ok (.iload_n 1, 1) := by decide +kernel
theorem dX12_gone_2 : decode cX12_gone 2 = .ok (.invokevirtual 232, 3) := by decide +kernel
theorem dX12_gone_5 : decode cX12_gone 5 = .ok (.ifCond .ne 6, 3) := by decide +kernel
theorem dX12_gone_8 : decode cX12_gone 8 = .ok (.bipush (-2), 2) := by decide +kernel
theorem dX12_gone_10 : decode cX12_gone 10 = .ok (.ireturn, 1) := by decide +kernel
theorem dX12_gone_11 : decode cX12_gone 11 = .ok (.aload_n 0, 1) := by decide +kernel
theorem dX12_gone_12 : decode cX12_gone 12 = .ok (.getfield 47, 3) := by decide +kernel
theorem dX12_gone_15 : decode cX12_gone 15 = .ok (.iload_n 1, 1) := by decide +kernel
theorem dX12_gone_16 : decode cX12_gone 16 = .ok (.iaload, 1) := by decide +kernel
theorem dX12_gone_17 : decode cX12_gone 17 = .ok (.istore_n 2, 1) := by decide +kernel
theorem dX12_gone_18 : decode cX12_gone 18 = .ok (.iload_n 2, 1) := by decide +kernel
theorem dX12_gone_19 : decode cX12_gone 19 = .ok (.ifCond .ge 6, 3) := by decide +kernel
theorem dX12_gone_22 : decode cX12_gone 22 = .ok (.bipush (-3), 2) := by decide +kernel
theorem dX12_gone_24 : decode cX12_gone 24 = .ok (.ireturn, 1) := by decide +kernel
theorem dX12_gone_25 : decode cX12_gone 25 = .ok (.aload_n 0, 1) := by decide +kernel
theorem dX12_gone_26 : decode cX12_gone 26 = .ok (.iload_n 2, 1) := by decide +kernel
theorem dX12_gone_27 : decode cX12_gone 27 = .ok (.iconst 5, 1) := by decide +kernel
theorem dX12_gone_28 : decode cX12_gone 28 = .ok (.invokevirtual 235, 3) := by decide +kernel
theorem dX12_gone_31 : decode cX12_gone 31 = .ok (.aload_n 0, 1) := by decide +kernel
theorem dX12_gone_32 : decode cX12_gone 32 = .ok (.getfield 47, 3) := by decide +kernel
theorem dX12_gone_35 : decode cX12_gone 35 = .ok (.iload_n 1, 1) := by decide +kernel
theorem dX12_gone_36 : decode cX12_gone 36 = .ok (.iconst (-1), 1) := by decide +kernel
theorem dX12_gone_37 : decode cX12_gone 37 = .ok (.iastore, 1) := by decide +kernel
theorem dX12_gone_38 : decode cX12_gone 38 = .ok (.iload_n 2, 1) := by decide +kernel
theorem dX12_gone_39 : decode cX12_gone 39 = .ok (.ireturn, 1) := by decide +kernel
theorem dX12_isSeat_0 : decode cX12_isSeat 0 = .ok (.aload_n 0, 1) := by decide +kernel
theorem dX12_isSeat_1 : decode cX12_isSeat 1 = .ok (.iload_n 1, 1) := by decide +kernel
theorem dX12_isSeat_2 : decode cX12_isSeat 2 = .ok (.iconst 0, 1) := by decide +kernel
theorem dX12_isSeat_3 : decode cX12_isSeat 3 = .ok (.aload_n 0, 1) := by decide +kernel
theorem dX12_isSeat_4 : decode cX12_isSeat 4 = .ok (.getfield 62, 3) := by decide +kernel
theorem dX12_isSeat_7 : decode cX12_isSeat 7 = .ok (.iconst 1, 1) := by decide +kernel
theorem dX12_isSeat_8 : decode cX12_isSeat 8 = .ok (.isub, 1) := by decide +kernel
theorem dX12_isSeat_9 : decode cX12_isSeat 9 = .ok (.invokevirtual 217, 3) := by decide +kernel
theorem dX12_isSeat_12 : decode cX12_isSeat 12 = .ok (.ireturn, 1) := by decide +kernel
theorem dX12_isSat_0 : decode cX12_isSat 0 = .ok (.aload_n 0, 1) := by decide +kernel
theorem dX12_isSat_1 : decode cX12_isSat 1 = .ok (.iload_n 1, 1) := by decide +kernel
theorem dX12_isSat_2 : decode cX12_isSat 2 = .ok (.invokevirtual 239, 3) := by decide +kernel
theorem dX12_isSat_5 : decode cX12_isSat 5 = .ok (.ifCond .eq 16, 3) := by decide +kernel
theorem dX12_isSat_8 : decode cX12_isSat 8 = .ok (.aload_n 0, 1) := by decide +kernel
theorem dX12_isSat_9 : decode cX12_isSat 9 = .ok (.getfield 86, 3) := by decide +kernel
theorem dX12_isSat_12 : decode cX12_isSat 12 = .ok (.iload_n 1, 1) := by decide +kernel
theorem dX12_isSat_13 : decode cX12_isSat 13 = .ok (.baload, 1) := by decide +kernel
theorem dX12_isSat_14 : decode cX12_isSat 14 = .ok (.ifCond .eq 7, 3) := by decide +kernel
theorem dX12_isSat_17 : decode cX12_isSat 17 = .ok (.iconst 1, 1) := by decide +kernel
theorem dX12_isSat_18 : decode cX12_isSat 18 = .ok (.goto 4, 3) := by decide +kernel
theorem dX12_isSat_21 : decode cX12_isSat 21 = .ok (.iconst 0, 1) := by decide +kernel
theorem dX12_isSat_22 : decode cX12_isSat 22 = .ok (.ireturn, 1) := by decide +kernel
theorem dX12_seat_0 : decode cX12_seat 0 = .ok (.aload_n 0, 1) := by decide +kernel
theorem dX12_seat_1 : decode cX12_seat 1 = .ok (.iload_n 1, 1) := by decide +kernel
theorem dX12_seat_2 : decode cX12_seat 2 = .ok (.iconst 1, 1) := by decide +kernel
theorem dX12_seat_3 : decode cX12_seat 3 = .ok (.aload_n 0, 1) := by decide +kernel
theorem dX12_seat_4 : decode cX12_seat 4 = .ok (.getfield 211, 3) := by decide +kernel
theorem dX12_seat_7 : decode cX12_seat 7 = .ok (.iconst 1, 1) := by decide +kernel
theorem dX12_seat_8 : decode cX12_seat 8 = .ok (.isub, 1) := by decide +kernel
theorem dX12_seat_9 : decode cX12_seat 9 = .ok (.invokevirtual 217, 3) := by decide +kernel
theorem dX12_seat_12 : decode cX12_seat 12 = .ok (.ifCond .ne 6, 3) := by decide +kernel
theorem dX12_seat_15 : decode cX12_seat 15 = .ok (.bipush (-2), 2) := by decide +kernel
theorem dX12_seat_17 : decode cX12_seat 17 = .ok (.ireturn, 1) := by decide +kernel
theorem dX12_seat_18 : decode cX12_seat 18 = .ok (.iconst 0, 1) := by decide +kernel
theorem dX12_seat_19 : decode cX12_seat 19 = .ok (.istore_n 2, 1) := by decide +kernel
theorem dX12_seat_20 : decode cX12_seat 20 = .ok (.iload_n 2, 1) := by decide +kernel
theorem dX12_seat_21 : decode cX12_seat 21 = .ok (.aload_n 0, 1) := by decide +kernel
theorem dX12_seat_22 : decode cX12_seat 22 = .ok (.getfield 62, 3) := by decide +kernel
theorem dX12_seat_25 : decode cX12_seat 25 = .ok (.if_icmp .ge 22, 3) := by decide +kernel
theorem dX12_seat_28 : decode cX12_seat 28 = .ok (.aload_n 0, 1) := by decide +kernel
theorem dX12_seat_29 : decode cX12_seat 29 = .ok (.getfield 65, 3) := by decide +kernel
theorem dX12_seat_32 : decode cX12_seat 32 = .ok (.iload_n 2, 1) := by decide +kernel
theorem dX12_seat_33 : decode cX12_seat 33 = .ok (.iaload, 1) := by decide +kernel
theorem dX12_seat_34 : decode cX12_seat 34 = .ok (.iload_n 1, 1) := by decide +kernel
theorem dX12_seat_35 : decode cX12_seat 35 = .ok (.if_icmp .ne 6, 3) := by decide +kernel
theorem dX12_seat_38 : decode cX12_seat 38 = .ok (.bipush (-2), 2) := by decide +kernel
theorem dX12_seat_40 : decode cX12_seat 40 = .ok (.ireturn, 1) := by decide +kernel
theorem dX12_seat_41 : decode cX12_seat 41 = .ok (.iinc 2 1, 3) := by decide +kernel
theorem dX12_seat_44 : decode cX12_seat 44 = .ok (.goto (-24), 3) := by decide +kernel
theorem dX12_seat_47 : decode cX12_seat 47 = .ok (.aload_n 0, 1) := by decide +kernel
theorem dX12_seat_48 : decode cX12_seat 48 = .ok (.getfield 62, 3) := by decide +kernel
theorem dX12_seat_51 : decode cX12_seat 51 = .ok (.bipush 8, 2) := by decide +kernel
theorem dX12_seat_53 : decode cX12_seat 53 = .ok (.if_icmp .ne 6, 3) := by decide +kernel
theorem dX12_seat_56 : decode cX12_seat 56 = .ok (.bipush (-4), 2) := by decide +kernel
theorem dX12_seat_58 : decode cX12_seat 58 = .ok (.ireturn, 1) := by decide +kernel
theorem dX12_seat_59 : decode cX12_seat 59 = .ok (.aload_n 0, 1) := by decide +kernel
theorem dX12_seat_60 : decode cX12_seat 60 = .ok (.getfield 65, 3) := by decide +kernel
theorem dX12_seat_63 : decode cX12_seat 63 = .ok (.aload_n 0, 1) := by decide +kernel
theorem dX12_seat_64 : decode cX12_seat 64 = .ok (.getfield 62, 3) := by decide +kernel
theorem dX12_seat_67 : decode cX12_seat 67 = .ok (.iload_n 1, 1) := by decide +kernel
theorem dX12_seat_68 : decode cX12_seat 68 = .ok (.iastore, 1) := by decide +kernel
theorem dX12_seat_69 : decode cX12_seat 69 = .ok (.aload_n 0, 1) := by decide +kernel
theorem dX12_seat_70 : decode cX12_seat 70 = .ok (.getfield 77, 3) := by decide +kernel
theorem dX12_seat_73 : decode cX12_seat 73 = .ok (.aload_n 0, 1) := by decide +kernel
theorem dX12_seat_74 : decode cX12_seat 74 = .ok (.getfield 62, 3) := by decide +kernel
theorem dX12_seat_77 : decode cX12_seat 77 = .ok (.iconst (-1), 1) := by decide +kernel
theorem dX12_seat_78 : decode cX12_seat 78 = .ok (.iastore, 1) := by decide +kernel
theorem dX12_seat_79 : decode cX12_seat 79 = .ok (.aload_n 0, 1) := by decide +kernel
theorem dX12_seat_80 : decode cX12_seat 80 = .ok (.getfield 80, 3) := by decide +kernel
theorem dX12_seat_83 : decode cX12_seat 83 = .ok (.aload_n 0, 1) := by decide +kernel
theorem dX12_seat_84 : decode cX12_seat 84 = .ok (.getfield 62, 3) := by decide +kernel
theorem dX12_seat_87 : decode cX12_seat 87 = .ok (.iconst (-1), 1) := by decide +kernel
theorem dX12_seat_88 : decode cX12_seat 88 = .ok (.iastore, 1) := by decide +kernel
theorem dX12_seat_89 : decode cX12_seat 89 = .ok (.aload_n 0, 1) := by decide +kernel
theorem dX12_seat_90 : decode cX12_seat 90 = .ok (.dup, 1) := by decide +kernel
theorem dX12_seat_91 : decode cX12_seat 91 = .ok (.getfield 62, 3) := by decide +kernel
theorem dX12_seat_94 : decode cX12_seat 94 = .ok (.iconst 1, 1) := by decide +kernel
theorem dX12_seat_95 : decode cX12_seat 95 = .ok (.iadd, 1) := by decide +kernel
theorem dX12_seat_96 : decode cX12_seat 96 = .ok (.putfield 62, 3) := by decide +kernel
theorem dX12_seat_99 : decode cX12_seat 99 = .ok (.aload_n 0, 1) := by decide +kernel
theorem dX12_seat_100 : decode cX12_seat 100 = .ok (.getfield 62, 3) := by decide +kernel
theorem dX12_seat_103 : decode cX12_seat 103 = .ok (.iconst 1, 1) := by decide +kernel
theorem dX12_seat_104 : decode cX12_seat 104 = .ok (.isub, 1) := by decide +kernel
theorem dX12_seat_105 : decode cX12_seat 105 = .ok (.ireturn, 1) := by decide +kernel
theorem dX12_guest_0 : decode cX12_guest 0 = .ok (.aload_n 0, 1) := by decide +kernel
theorem dX12_guest_1 : decode cX12_guest 1 = .ok (.iload_n 1, 1) := by decide +kernel
theorem dX12_guest_2 : decode cX12_guest 2 = .ok (.invokevirtual 239, 3) := by decide +kernel
theorem dX12_guest_5 : decode cX12_guest 5 = .ok (.ifCond .eq 24, 3) := by decide +kernel
theorem dX12_guest_8 : decode cX12_guest 8 = .ok (.aload_n 0, 1) := by decide +kernel
theorem dX12_guest_9 : decode cX12_guest 9 = .ok (.iload_n 2, 1) := by decide +kernel
theorem dX12_guest_10 : decode cX12_guest 10 = .ok (.iconst 0, 1) := by decide +kernel
theorem dX12_guest_11 : decode cX12_guest 11 = .ok (.iconst 5, 1) := by decide +kernel
theorem dX12_guest_12 : decode cX12_guest 12 = .ok (.invokevirtual 217, 3) := by decide +kernel
theorem dX12_guest_15 : decode cX12_guest 15 = .ok (.ifCond .eq 14, 3) := by decide +kernel
theorem dX12_guest_18 : decode cX12_guest 18 = .ok (.aload_n 0, 1) := by decide +kernel
theorem dX12_guest_19 : decode cX12_guest 19 = .ok (.iload_n 3, 1) := by decide +kernel
theorem dX12_guest_20 : decode cX12_guest 20 = .ok (.iconst 0, 1) := by decide +kernel
theorem dX12_guest_21 : decode cX12_guest 21 = .ok (.ldc 242, 2) := by decide +kernel
theorem dX12_guest_23 : decode cX12_guest 23 = .ok (.invokevirtual 217, 3) := by decide +kernel
theorem dX12_guest_26 : decode cX12_guest 26 = .ok (.ifCond .ne 6, 3) := by decide +kernel
theorem dX12_guest_29 : decode cX12_guest 29 = .ok (.bipush (-2), 2) := by decide +kernel
theorem dX12_guest_31 : decode cX12_guest 31 = .ok (.ireturn, 1) := by decide +kernel
theorem dX12_guest_32 : decode cX12_guest 32 = .ok (.aload_n 0, 1) := by decide +kernel
theorem dX12_guest_33 : decode cX12_guest 33 = .ok (.getfield 86, 3) := by decide +kernel
theorem dX12_guest_36 : decode cX12_guest 36 = .ok (.iload_n 1, 1) := by decide +kernel
theorem dX12_guest_37 : decode cX12_guest 37 = .ok (.baload, 1) := by decide +kernel
theorem dX12_guest_38 : decode cX12_guest 38 = .ok (.ifCond .eq 6, 3) := by decide +kernel
theorem dX12_guest_41 : decode cX12_guest 41 = .ok (.bipush (-3), 2) := by decide +kernel
theorem dX12_guest_43 : decode cX12_guest 43 = .ok (.ireturn, 1) := by decide +kernel
theorem dX12_guest_44 : decode cX12_guest 44 = .ok (.aload_n 0, 1) := by decide +kernel
theorem dX12_guest_45 : decode cX12_guest 45 = .ok (.getfield 86, 3) := by decide +kernel
theorem dX12_guest_48 : decode cX12_guest 48 = .ok (.iload_n 1, 1) := by decide +kernel
theorem dX12_guest_49 : decode cX12_guest 49 = .ok (.iconst 1, 1) := by decide +kernel
theorem dX12_guest_50 : decode cX12_guest 50 = .ok (.bastore, 1) := by decide +kernel
theorem dX12_guest_51 : decode cX12_guest 51 = .ok (.aload_n 0, 1) := by decide +kernel
theorem dX12_guest_52 : decode cX12_guest 52 = .ok (.getfield 68, 3) := by decide +kernel
theorem dX12_guest_55 : decode cX12_guest 55 = .ok (.iload_n 1, 1) := by decide +kernel
theorem dX12_guest_56 : decode cX12_guest 56 = .ok (.iload_n 2, 1) := by decide +kernel
theorem dX12_guest_57 : decode cX12_guest 57 = .ok (.iastore, 1) := by decide +kernel
theorem dX12_guest_58 : decode cX12_guest 58 = .ok (.aload_n 0, 1) := by decide +kernel
theorem dX12_guest_59 : decode cX12_guest 59 = .ok (.getfield 71, 3) := by decide +kernel
theorem dX12_guest_62 : decode cX12_guest 62 = .ok (.iload_n 1, 1) := by decide +kernel
theorem dX12_guest_63 : decode cX12_guest 63 = .ok (.iconst 0, 1) := by decide +kernel
theorem dX12_guest_64 : decode cX12_guest 64 = .ok (.iastore, 1) := by decide +kernel
theorem dX12_guest_65 : decode cX12_guest 65 = .ok (.aload_n 0, 1) := by decide +kernel
theorem dX12_guest_66 : decode cX12_guest 66 = .ok (.getfield 74, 3) := by decide +kernel
theorem dX12_guest_69 : decode cX12_guest 69 = .ok (.iload_n 1, 1) := by decide +kernel
theorem dX12_guest_70 : decode cX12_guest 70 = .ok (.iconst 0, 1) := by decide +kernel
theorem dX12_guest_71 : decode cX12_guest 71 = .ok (.iastore, 1) := by decide +kernel
theorem dX12_guest_72 : decode cX12_guest 72 = .ok (.aload_n 0, 1) := by decide +kernel
theorem dX12_guest_73 : decode cX12_guest 73 = .ok (.getfield 77, 3) := by decide +kernel
theorem dX12_guest_76 : decode cX12_guest 76 = .ok (.iload_n 1, 1) := by decide +kernel
theorem dX12_guest_77 : decode cX12_guest 77 = .ok (.iconst (-1), 1) := by decide +kernel
theorem dX12_guest_78 : decode cX12_guest 78 = .ok (.iastore, 1) := by decide +kernel
theorem dX12_guest_79 : decode cX12_guest 79 = .ok (.aload_n 0, 1) := by decide +kernel
theorem dX12_guest_80 : decode cX12_guest 80 = .ok (.getfield 80, 3) := by decide +kernel
theorem dX12_guest_83 : decode cX12_guest 83 = .ok (.iload_n 1, 1) := by decide +kernel
theorem dX12_guest_84 : decode cX12_guest 84 = .ok (.iconst (-1), 1) := by decide +kernel
theorem dX12_guest_85 : decode cX12_guest 85 = .ok (.iastore, 1) := by decide +kernel
theorem dX12_guest_86 : decode cX12_guest 86 = .ok (.iload_n 3, 1) := by decide +kernel
theorem dX12_guest_87 : decode cX12_guest 87 = .ok (.istore 4, 2) := by decide +kernel
theorem dX12_guest_89 : decode cX12_guest 89 = .ok (.iconst 0, 1) := by decide +kernel
theorem dX12_guest_90 : decode cX12_guest 90 = .ok (.istore 5, 2) := by decide +kernel
theorem dX12_guest_92 : decode cX12_guest 92 = .ok (.iload 5, 2) := by decide +kernel
theorem dX12_guest_94 : decode cX12_guest 94 = .ok (.bipush 6, 2) := by decide +kernel
theorem dX12_guest_96 : decode cX12_guest 96 = .ok (.if_icmp .ge 33, 3) := by decide +kernel
theorem dX12_guest_99 : decode cX12_guest 99 = .ok (.aload_n 0, 1) := by decide +kernel
theorem dX12_guest_100 : decode cX12_guest 100 = .ok (.getfield 83, 3) := by decide +kernel
theorem dX12_guest_103 : decode cX12_guest 103 = .ok (.bipush 6, 2) := by decide +kernel
theorem dX12_guest_105 : decode cX12_guest 105 = .ok (.iload_n 1, 1) := by decide +kernel
theorem dX12_guest_106 : decode cX12_guest 106 = .ok (.imul, 1) := by decide +kernel
theorem dX12_guest_107 : decode cX12_guest 107 = .ok (.iload 5, 2) := by decide +kernel
theorem dX12_guest_109 : decode cX12_guest 109 = .ok (.iadd, 1) := by decide +kernel
theorem dX12_guest_110 : decode cX12_guest 110 = .ok (.iload 4, 2) := by decide +kernel
theorem dX12_guest_112 : decode cX12_guest 112 = .ok (.bipush 10, 2) := by decide +kernel
theorem dX12_guest_114 : decode cX12_guest 114 = .ok (.irem, 1) := by decide +kernel
theorem dX12_guest_115 : decode cX12_guest 115 = .ok (.iastore, 1) := by decide +kernel
theorem dX12_guest_116 : decode cX12_guest 116 = .ok (.iload 4, 2) := by decide +kernel
theorem dX12_guest_118 : decode cX12_guest 118 = .ok (.bipush 10, 2) := by decide +kernel
theorem dX12_guest_120 : decode cX12_guest 120 = .ok (.idiv, 1) := by decide +kernel
theorem dX12_guest_121 : decode cX12_guest 121 = .ok (.istore 4, 2) := by decide +kernel
theorem dX12_guest_123 : decode cX12_guest 123 = .ok (.iinc 5 1, 3) := by decide +kernel
theorem dX12_guest_126 : decode cX12_guest 126 = .ok (.goto (-34), 3) := by decide +kernel
theorem dX12_guest_129 : decode cX12_guest 129 = .ok (.iconst 1, 1) := by decide +kernel
theorem dX12_guest_130 : decode cX12_guest 130 = .ok (.ireturn, 1) := by decide +kernel
theorem dX12_roomOf_0 : decode cX12_roomOf 0 = .ok (.iload_n 1, 1) := by decide +kernel
theorem dX12_roomOf_1 : decode cX12_roomOf 1 = .ok (.iconst 1, 1) := by decide +kernel
theorem dX12_roomOf_2 : decode cX12_roomOf 2 = .ok (.if_icmp .ne 7, 3) := by decide +kernel
theorem dX12_roomOf_5 : decode cX12_roomOf 5 = .ok (.iconst 3, 1) := by decide +kernel
theorem dX12_roomOf_6 : decode cX12_roomOf 6 = .ok (.goto 34, 3) := by decide +kernel
theorem dX12_roomOf_9 : decode cX12_roomOf 9 = .ok (.iload_n 1, 1) := by decide +kernel
theorem dX12_roomOf_10 : decode cX12_roomOf 10 = .ok (.iconst 2, 1) := by decide +kernel
theorem dX12_roomOf_11 : decode cX12_roomOf 11 = .ok (.if_icmp .ne 8, 3) := by decide +kernel
theorem dX12_roomOf_14 : decode cX12_roomOf 14 = .ok (.bipush 10, 2) := by decide +kernel
theorem dX12_roomOf_16 : decode cX12_roomOf 16 = .ok (.goto 24, 3) := by decide +kernel
theorem dX12_roomOf_19 : decode cX12_roomOf 19 = .ok (.iload_n 1, 1) := by decide +kernel
theorem dX12_roomOf_20 : decode cX12_roomOf 20 = .ok (.iconst 4, 1) := by decide +kernel
theorem dX12_roomOf_21 : decode cX12_roomOf 21 = .ok (.if_icmp .ne 8, 3) := by decide +kernel
theorem dX12_roomOf_24 : decode cX12_roomOf 24 = .ok (.bipush 9, 2) := by decide +kernel
theorem dX12_roomOf_26 : decode cX12_roomOf 26 = .ok (.goto 14, 3) := by decide +kernel
theorem dX12_roomOf_29 : decode cX12_roomOf 29 = .ok (.iload_n 1, 1) := by decide +kernel
theorem dX12_roomOf_30 : decode cX12_roomOf 30 = .ok (.iconst 5, 1) := by decide +kernel
theorem dX12_roomOf_31 : decode cX12_roomOf 31 = .ok (.if_icmp .ne 7, 3) := by decide +kernel
theorem dX12_roomOf_34 : decode cX12_roomOf 34 = .ok (.iconst 2, 1) := by decide +kernel
theorem dX12_roomOf_35 : decode cX12_roomOf 35 = .ok (.goto 5, 3) := by decide +kernel
theorem dX12_roomOf_38 : decode cX12_roomOf 38 = .ok (.bipush 6, 2) := by decide +kernel
theorem dX12_roomOf_40 : decode cX12_roomOf 40 = .ok (.ireturn, 1) := by decide +kernel
theorem dX12_liked_0 : decode cX12_liked 0 = .ok (.aload_n 0, 1) := by decide +kernel
theorem dX12_liked_1 : decode cX12_liked 1 = .ok (.getfield 83, 3) := by decide +kernel
theorem dX12_liked_4 : decode cX12_liked 4 = .ok (.bipush 6, 2) := by decide +kernel
theorem dX12_liked_6 : decode cX12_liked 6 = .ok (.iload_n 1, 1) := by decide +kernel
theorem dX12_liked_7 : decode cX12_liked 7 = .ok (.imul, 1) := by decide +kernel
theorem dX12_liked_8 : decode cX12_liked 8 = .ok (.aload_n 0, 1) := by decide +kernel
theorem dX12_liked_9 : decode cX12_liked 9 = .ok (.getfield 32, 3) := by decide +kernel
theorem dX12_liked_12 : decode cX12_liked 12 = .ok (.iload_n 2, 1) := by decide +kernel
theorem dX12_liked_13 : decode cX12_liked 13 = .ok (.iaload, 1) := by decide +kernel
theorem dX12_liked_14 : decode cX12_liked 14 = .ok (.iadd, 1) := by decide +kernel
theorem dX12_liked_15 : decode cX12_liked 15 = .ok (.iaload, 1) := by decide +kernel
theorem dX12_liked_16 : decode cX12_liked 16 = .ok (.istore_n 3, 1) := by decide +kernel
theorem dX12_liked_17 : decode cX12_liked 17 = .ok (.aload_n 0, 1) := by decide +kernel
theorem dX12_liked_18 : decode cX12_liked 18 = .ok (.getfield 68, 3) := by decide +kernel
theorem dX12_liked_21 : decode cX12_liked 21 = .ok (.iload_n 1, 1) := by decide +kernel
theorem dX12_liked_22 : decode cX12_liked 22 = .ok (.iaload, 1) := by decide +kernel
theorem dX12_liked_23 : decode cX12_liked 23 = .ok (.istore 4, 2) := by decide +kernel
theorem dX12_liked_25 : decode cX12_liked 25 = .ok (.iload 4, 2) := by decide +kernel
theorem dX12_liked_27 : decode cX12_liked 27 = .ok (.iconst 1, 1) := by decide +kernel
theorem dX12_liked_28 : decode cX12_liked 28 = .ok (.if_icmp .eq 19, 3) := by decide +kernel
theorem dX12_liked_31 : decode cX12_liked 31 = .ok (.iload 4, 2) := by decide +kernel
theorem dX12_liked_33 : decode cX12_liked 33 = .ok (.iconst 5, 1) := by decide +kernel
theorem dX12_liked_34 : decode cX12_liked 34 = .ok (.if_icmp .ne 30, 3) := by decide +kernel
theorem dX12_liked_37 : decode cX12_liked 37 = .ok (.aload_n 0, 1) := by decide +kernel
theorem dX12_liked_38 : decode cX12_liked 38 = .ok (.getfield 71, 3) := by decide +kernel
theorem dX12_liked_41 : decode cX12_liked 41 = .ok (.iload_n 1, 1) := by decide +kernel
theorem dX12_liked_42 : decode cX12_liked 42 = .ok (.iaload, 1) := by decide +kernel
theorem dX12_liked_43 : decode cX12_liked 43 = .ok (.iconst 2, 1) := by decide +kernel
theorem dX12_liked_44 : decode cX12_liked 44 = .ok (.if_icmp .ge 20, 3) := by decide +kernel
theorem dX12_liked_47 : decode cX12_liked 47 = .ok (.iload_n 3, 1) := by decide +kernel
theorem dX12_liked_48 : decode cX12_liked 48 = .ok (.aload_n 0, 1) := by decide +kernel
theorem dX12_liked_49 : decode cX12_liked 49 = .ok (.getfield 32, 3) := by decide +kernel
theorem dX12_liked_52 : decode cX12_liked 52 = .ok (.iload_n 2, 1) := by decide +kernel
theorem dX12_liked_53 : decode cX12_liked 53 = .ok (.iaload, 1) := by decide +kernel
theorem dX12_liked_54 : decode cX12_liked 54 = .ok (.ifCond .ne 7, 3) := by decide +kernel
theorem dX12_liked_57 : decode cX12_liked 57 = .ok (.iconst 2, 1) := by decide +kernel
theorem dX12_liked_58 : decode cX12_liked 58 = .ok (.goto 4, 3) := by decide +kernel
theorem dX12_liked_61 : decode cX12_liked 61 = .ok (.iconst 0, 1) := by decide +kernel
theorem dX12_liked_62 : decode cX12_liked 62 = .ok (.iadd, 1) := by decide +kernel
theorem dX12_liked_63 : decode cX12_liked 63 = .ok (.istore_n 3, 1) := by decide +kernel
theorem dX12_liked_64 : decode cX12_liked 64 = .ok (.iload 4, 2) := by decide +kernel
theorem dX12_liked_66 : decode cX12_liked 66 = .ok (.iconst 2, 1) := by decide +kernel
theorem dX12_liked_67 : decode cX12_liked 67 = .ok (.if_icmp .eq 9, 3) := by decide +kernel
theorem dX12_liked_70 : decode cX12_liked 70 = .ok (.iload 4, 2) := by decide +kernel
theorem dX12_liked_72 : decode cX12_liked 72 = .ok (.iconst 4, 1) := by decide +kernel
theorem dX12_liked_73 : decode cX12_liked 73 = .ok (.if_icmp .ne 6, 3) := by decide +kernel
theorem dX12_liked_76 : decode cX12_liked 76 = .ok (.iinc 3 1, 3) := by decide +kernel
theorem dX12_liked_79 : decode cX12_liked 79 = .ok (.iload 4, 2) := by decide +kernel
theorem dX12_liked_81 : decode cX12_liked 81 = .ok (.iconst 4, 1) := by decide +kernel
theorem dX12_liked_82 : decode cX12_liked 82 = .ok (.if_icmp .ne 14, 3) := by decide +kernel
theorem dX12_liked_85 : decode cX12_liked 85 = .ok (.iload_n 3, 1) := by decide +kernel
theorem dX12_liked_86 : decode cX12_liked 86 = .ok (.aload_n 0, 1) := by decide +kernel
theorem dX12_liked_87 : decode cX12_liked 87 = .ok (.getfield 74, 3) := by decide +kernel
theorem dX12_liked_90 : decode cX12_liked 90 = .ok (.iload_n 1, 1) := by decide +kernel
theorem dX12_liked_91 : decode cX12_liked 91 = .ok (.iaload, 1) := by decide +kernel
theorem dX12_liked_92 : decode cX12_liked 92 = .ok (.iconst 5, 1) := by decide +kernel
theorem dX12_liked_93 : decode cX12_liked 93 = .ok (.idiv, 1) := by decide +kernel
theorem dX12_liked_94 : decode cX12_liked 94 = .ok (.iadd, 1) := by decide +kernel
theorem dX12_liked_95 : decode cX12_liked 95 = .ok (.istore_n 3, 1) := by decide +kernel
theorem dX12_liked_96 : decode cX12_liked 96 = .ok (.iload 4, 2) := by decide +kernel
theorem dX12_liked_98 : decode cX12_liked 98 = .ok (.iconst 3, 1) := by decide +kernel
theorem dX12_liked_99 : decode cX12_liked 99 = .ok (.if_icmp .ne 14, 3) := by decide +kernel
theorem dX12_liked_102 : decode cX12_liked 102 = .ok (.iload_n 3, 1) := by decide +kernel
theorem dX12_liked_103 : decode cX12_liked 103 = .ok (.aload_n 0, 1) := by decide +kernel
theorem dX12_liked_104 : decode cX12_liked 104 = .ok (.getfield 38, 3) := by decide +kernel
theorem dX12_liked_107 : decode cX12_liked 107 = .ok (.iload_n 2, 1) := by decide +kernel
theorem dX12_liked_108 : decode cX12_liked 108 = .ok (.iaload, 1) := by decide +kernel
theorem dX12_liked_109 : decode cX12_liked 109 = .ok (.iconst 4, 1) := by decide +kernel
theorem dX12_liked_110 : decode cX12_liked 110 = .ok (.idiv, 1) := by decide +kernel
theorem dX12_liked_111 : decode cX12_liked 111 = .ok (.isub, 1) := by decide +kernel
theorem dX12_liked_112 : decode cX12_liked 112 = .ok (.istore_n 3, 1) := by decide +kernel
theorem dX12_liked_113 : decode cX12_liked 113 = .ok (.iload_n 3, 1) := by decide +kernel
theorem dX12_liked_114 : decode cX12_liked 114 = .ok (.ireturn, 1) := by decide +kernel
theorem dX12_billOf_0 : decode cX12_billOf 0 = .ok (.iconst 0, 1) := by decide +kernel
theorem dX12_billOf_1 : decode cX12_billOf 1 = .ok (.istore_n 3, 1) := by decide +kernel
theorem dX12_billOf_2 : decode cX12_billOf 2 = .ok (.iconst 0, 1) := by decide +kernel
theorem dX12_billOf_3 : decode cX12_billOf 3 = .ok (.istore 4, 2) := by decide +kernel
theorem dX12_billOf_5 : decode cX12_billOf 5 = .ok (.iload 4, 2) := by decide +kernel
theorem dX12_billOf_7 : decode cX12_billOf 7 = .ok (.aload_n 0, 1) := by decide +kernel
theorem dX12_billOf_8 : decode cX12_billOf 8 = .ok (.getfield 7, 3) := by decide +kernel
theorem dX12_billOf_11 : decode cX12_billOf 11 = .ok (.if_icmp .ge 58, 3) := by decide +kernel
theorem dX12_billOf_14 : decode cX12_billOf 14 = .ok (.iload_n 3, 1) := by decide +kernel
theorem dX12_billOf_15 : decode cX12_billOf 15 = .ok (.aload_n 0, 1) := by decide +kernel
theorem dX12_billOf_16 : decode cX12_billOf 16 = .ok (.getfield 41, 3) := by decide +kernel
theorem dX12_billOf_19 : decode cX12_billOf 19 = .ok (.iload 4, 2) := by decide +kernel
theorem dX12_billOf_21 : decode cX12_billOf 21 = .ok (.iaload, 1) := by decide +kernel
theorem dX12_billOf_22 : decode cX12_billOf 22 = .ok (.iconst 2, 1) := by decide +kernel
theorem dX12_billOf_23 : decode cX12_billOf 23 = .ok (.if_icmp .ne 37, 3) := by decide +kernel
theorem dX12_billOf_26 : decode cX12_billOf 26 = .ok (.aload_n 0, 1) := by decide +kernel
theorem dX12_billOf_27 : decode cX12_billOf 27 = .ok (.getfield 44, 3) := by decide +kernel
theorem dX12_billOf_30 : decode cX12_billOf 30 = .ok (.iload 4, 2) := by decide +kernel
theorem dX12_billOf_32 : decode cX12_billOf 32 = .ok (.iaload, 1) := by decide +kernel
theorem dX12_billOf_33 : decode cX12_billOf 33 = .ok (.iload_n 1, 1) := by decide +kernel
theorem dX12_billOf_34 : decode cX12_billOf 34 = .ok (.if_icmp .ne 26, 3) := by decide +kernel
theorem dX12_billOf_37 : decode cX12_billOf 37 = .ok (.iload_n 2, 1) := by decide +kernel
theorem dX12_billOf_38 : decode cX12_billOf 38 = .ok (.ifCond .eq 7, 3) := by decide +kernel
theorem dX12_billOf_41 : decode cX12_billOf 41 = .ok (.iconst 1, 1) := by decide +kernel
theorem dX12_billOf_42 : decode cX12_billOf 42 = .ok (.goto 19, 3) := by decide +kernel
theorem dX12_billOf_45 : decode cX12_billOf 45 = .ok (.aload_n 0, 1) := by decide +kernel
theorem dX12_billOf_46 : decode cX12_billOf 46 = .ok (.getfield 29, 3) := by decide +kernel
theorem dX12_billOf_49 : decode cX12_billOf 49 = .ok (.aload_n 0, 1) := by decide +kernel
theorem dX12_billOf_50 : decode cX12_billOf 50 = .ok (.getfield 35, 3) := by decide +kernel
theorem dX12_billOf_53 : decode cX12_billOf 53 = .ok (.iload 4, 2) := by decide +kernel
theorem dX12_billOf_55 : decode cX12_billOf 55 = .ok (.iaload, 1) := by decide +kernel
theorem dX12_billOf_56 : decode cX12_billOf 56 = .ok (.iaload, 1) := by decide +kernel
theorem dX12_billOf_57 : decode cX12_billOf 57 = .ok (.goto 4, 3) := by decide +kernel
theorem dX12_billOf_60 : decode cX12_billOf 60 = .ok (.iconst 0, 1) := by decide +kernel
theorem dX12_billOf_61 : decode cX12_billOf 61 = .ok (.iadd, 1) := by decide +kernel
theorem dX12_billOf_62 : decode cX12_billOf 62 = .ok (.istore_n 3, 1) := by decide +kernel
theorem dX12_billOf_63 : decode cX12_billOf 63 = .ok (.iinc 4 1, 3) := by decide +kernel
theorem dX12_billOf_66 : decode cX12_billOf 66 = .ok (.goto (-61), 3) := by decide +kernel
theorem dX12_billOf_69 : decode cX12_billOf 69 = .ok (.iload_n 3, 1) := by decide +kernel
theorem dX12_billOf_70 : decode cX12_billOf 70 = .ok (.ireturn, 1) := by decide +kernel
theorem dX12_seatTold_0 : decode cX12_seatTold 0 = .ok (.aload_n 0, 1) := by decide +kernel
theorem dX12_seatTold_1 : decode cX12_seatTold 1 = .ok (.iload_n 1, 1) := by decide +kernel
theorem dX12_seatTold_2 : decode cX12_seatTold 2 = .ok (.invokevirtual 239, 3) := by decide +kernel
theorem dX12_seatTold_5 : decode cX12_seatTold 5 = .ok (.ifCond .eq 14, 3) := by decide +kernel
theorem dX12_seatTold_8 : decode cX12_seatTold 8 = .ok (.aload_n 0, 1) := by decide +kernel
theorem dX12_seatTold_9 : decode cX12_seatTold 9 = .ok (.iload_n 2, 1) := by decide +kernel
theorem dX12_seatTold_10 : decode cX12_seatTold 10 = .ok (.iconst 0, 1) := by decide +kernel
theorem dX12_seatTold_11 : decode cX12_seatTold 11 = .ok (.bipush 7, 2) := by decide +kernel
theorem dX12_seatTold_13 : decode cX12_seatTold 13 = .ok (.invokevirtual 217, 3) := by decide +kernel
theorem dX12_seatTold_16 : decode cX12_seatTold 16 = .ok (.ifCond .ne 6, 3) := by decide +kernel
theorem dX12_seatTold_19 : decode cX12_seatTold 19 = .ok (.bipush (-2), 2) := by decide +kernel
theorem dX12_seatTold_21 : decode cX12_seatTold 21 = .ok (.ireturn, 1) := by decide +kernel
theorem dX12_seatTold_22 : decode cX12_seatTold 22 = .ok (.iload_n 2, 1) := by decide +kernel
theorem dX12_seatTold_23 : decode cX12_seatTold 23 = .ok (.ifCond .ne 10, 3) := by decide +kernel
theorem dX12_seatTold_26 : decode cX12_seatTold 26 = .ok (.aload_n 0, 1) := by decide +kernel
theorem dX12_seatTold_27 : decode cX12_seatTold 27 = .ok (.getfield 65, 3) := by decide +kernel
theorem dX12_seatTold_30 : decode cX12_seatTold 30 = .ok (.iload_n 1, 1) := by decide +kernel
theorem dX12_seatTold_31 : decode cX12_seatTold 31 = .ok (.iaload, 1) := by decide +kernel
theorem dX12_seatTold_32 : decode cX12_seatTold 32 = .ok (.ireturn, 1) := by decide +kernel
theorem dX12_seatTold_33 : decode cX12_seatTold 33 = .ok (.iload_n 2, 1) := by decide +kernel
theorem dX12_seatTold_34 : decode cX12_seatTold 34 = .ok (.iconst 5, 1) := by decide +kernel
theorem dX12_seatTold_35 : decode cX12_seatTold 35 = .ok (.if_icmp .eq 9, 3) := by decide +kernel
theorem dX12_seatTold_38 : decode cX12_seatTold 38 = .ok (.iload_n 2, 1) := by decide +kernel
theorem dX12_seatTold_39 : decode cX12_seatTold 39 = .ok (.bipush 6, 2) := by decide +kernel
theorem dX12_seatTold_41 : decode cX12_seatTold 41 = .ok (.if_icmp .ne 19, 3) := by decide +kernel
theorem dX12_seatTold_44 : decode cX12_seatTold 44 = .ok (.aload_n 0, 1) := by decide +kernel
theorem dX12_seatTold_45 : decode cX12_seatTold 45 = .ok (.iload_n 1, 1) := by decide +kernel
theorem dX12_seatTold_46 : decode cX12_seatTold 46 = .ok (.iload_n 2, 1) := by decide +kernel
theorem dX12_seatTold_47 : decode cX12_seatTold 47 = .ok (.iconst 5, 1) := by decide +kernel
theorem dX12_seatTold_48 : decode cX12_seatTold 48 = .ok (.if_icmp .ne 7, 3) := by decide +kernel
theorem dX12_seatTold_51 : decode cX12_seatTold 51 = .ok (.iconst 1, 1) := by decide +kernel
theorem dX12_seatTold_52 : decode cX12_seatTold 52 = .ok (.goto 4, 3) := by decide +kernel
theorem dX12_seatTold_55 : decode cX12_seatTold 55 = .ok (.iconst 0, 1) := by decide +kernel
theorem dX12_seatTold_56 : decode cX12_seatTold 56 = .ok (.invokevirtual 243, 3) := by decide +kernel
theorem dX12_seatTold_59 : decode cX12_seatTold 59 = .ok (.ireturn, 1) := by decide +kernel
theorem dX12_seatTold_60 : decode cX12_seatTold 60 = .ok (.aload_n 0, 1) := by decide +kernel
theorem dX12_seatTold_61 : decode cX12_seatTold 61 = .ok (.getfield 86, 3) := by decide +kernel
theorem dX12_seatTold_64 : decode cX12_seatTold 64 = .ok (.iload_n 1, 1) := by decide +kernel
theorem dX12_seatTold_65 : decode cX12_seatTold 65 = .ok (.baload, 1) := by decide +kernel
theorem dX12_seatTold_66 : decode cX12_seatTold 66 = .ok (.ifCond .ne 5, 3) := by decide +kernel
theorem dX12_seatTold_69 : decode cX12_seatTold 69 = .ok (.iconst (-1), 1) := by decide +kernel
theorem dX12_seatTold_70 : decode cX12_seatTold 70 = .ok (.ireturn, 1) := by decide +kernel
theorem dX12_seatTold_71 : decode cX12_seatTold 71 = .ok (.iload_n 2, 1) := by decide +kernel
theorem dX12_seatTold_72 : decode cX12_seatTold 72 = .ok (.iconst 1, 1) := by decide +kernel
theorem dX12_seatTold_73 : decode cX12_seatTold 73 = .ok (.if_icmp .ne 12, 3) := by decide +kernel
theorem dX12_seatTold_76 : decode cX12_seatTold 76 = .ok (.aload_n 0, 1) := by decide +kernel
theorem dX12_seatTold_77 : decode cX12_seatTold 77 = .ok (.getfield 68, 3) := by decide +kernel
theorem dX12_seatTold_80 : decode cX12_seatTold 80 = .ok (.iload_n 1, 1) := by decide +kernel
theorem dX12_seatTold_81 : decode cX12_seatTold 81 = .ok (.iaload, 1) := by decide +kernel
theorem dX12_seatTold_82 : decode cX12_seatTold 82 = .ok (.goto 55, 3) := by decide +kernel
theorem dX12_seatTold_85 : decode cX12_seatTold 85 = .ok (.iload_n 2, 1) := by decide +kernel
theorem dX12_seatTold_86 : decode cX12_seatTold 86 = .ok (.iconst 2, 1) := by decide +kernel
theorem dX12_seatTold_87 : decode cX12_seatTold 87 = .ok (.if_icmp .ne 12, 3) := by decide +kernel
theorem dX12_seatTold_90 : decode cX12_seatTold 90 = .ok (.aload_n 0, 1) := by decide +kernel
theorem dX12_seatTold_91 : decode cX12_seatTold 91 = .ok (.getfield 71, 3) := by decide +kernel
theorem dX12_seatTold_94 : decode cX12_seatTold 94 = .ok (.iload_n 1, 1) := by decide +kernel
theorem dX12_seatTold_95 : decode cX12_seatTold 95 = .ok (.iaload, 1) := by decide +kernel
theorem dX12_seatTold_96 : decode cX12_seatTold 96 = .ok (.goto 41, 3) := by decide +kernel
theorem dX12_seatTold_99 : decode cX12_seatTold 99 = .ok (.iload_n 2, 1) := by decide +kernel
theorem dX12_seatTold_100 : decode cX12_seatTold 100 = .ok (.iconst 3, 1) := by decide +kernel
theorem dX12_seatTold_101 : decode cX12_seatTold 101 = .ok (.if_icmp .ne 12, 3) := by decide +kernel
theorem dX12_seatTold_104 : decode cX12_seatTold 104 = .ok (.aload_n 0, 1) := by decide +kernel
theorem dX12_seatTold_105 : decode cX12_seatTold 105 = .ok (.getfield 74, 3) := by decide +kernel
theorem dX12_seatTold_108 : decode cX12_seatTold 108 = .ok (.iload_n 1, 1) := by decide +kernel
theorem dX12_seatTold_109 : decode cX12_seatTold 109 = .ok (.iaload, 1) := by decide +kernel
theorem dX12_seatTold_110 : decode cX12_seatTold 110 = .ok (.goto 27, 3) := by decide +kernel
theorem dX12_seatTold_113 : decode cX12_seatTold 113 = .ok (.iload_n 2, 1) := by decide +kernel
theorem dX12_seatTold_114 : decode cX12_seatTold 114 = .ok (.iconst 4, 1) := by decide +kernel
theorem dX12_seatTold_115 : decode cX12_seatTold 115 = .ok (.if_icmp .ne 16, 3) := by decide +kernel
theorem dX12_seatTold_118 : decode cX12_seatTold 118 = .ok (.aload_n 0, 1) := by decide +kernel
theorem dX12_seatTold_119 : decode cX12_seatTold 119 = .ok (.aload_n 0, 1) := by decide +kernel
theorem dX12_seatTold_120 : decode cX12_seatTold 120 = .ok (.getfield 68, 3) := by decide +kernel
theorem dX12_seatTold_123 : decode cX12_seatTold 123 = .ok (.iload_n 1, 1) := by decide +kernel
theorem dX12_seatTold_124 : decode cX12_seatTold 124 = .ok (.iaload, 1) := by decide +kernel
theorem dX12_seatTold_125 : decode cX12_seatTold 125 = .ok (.invokevirtual 247, 3) := by decide +kernel
theorem dX12_seatTold_128 : decode cX12_seatTold 128 = .ok (.goto 9, 3) := by decide +kernel
theorem dX12_seatTold_131 : decode cX12_seatTold 131 = .ok (.aload_n 0, 1) := by decide +kernel
theorem dX12_seatTold_132 : decode cX12_seatTold 132 = .ok (.getfield 77, 3) := by decide +kernel
theorem dX12_seatTold_135 : decode cX12_seatTold 135 = .ok (.iload_n 1, 1) := by decide +kernel
theorem dX12_seatTold_136 : decode cX12_seatTold 136 = .ok (.iaload, 1) := by decide +kernel
theorem dX12_seatTold_137 : decode cX12_seatTold 137 = .ok (.ireturn, 1) := by decide +kernel
theorem dX12_liking_0 : decode cX12_liking 0 = .ok (.aload_n 0, 1) := by decide +kernel
theorem dX12_liking_1 : decode cX12_liking 1 = .ok (.iload_n 1, 1) := by decide +kernel
theorem dX12_liking_2 : decode cX12_liking 2 = .ok (.invokevirtual 251, 3) := by decide +kernel
theorem dX12_liking_5 : decode cX12_liking 5 = .ok (.ifCond .eq 21, 3) := by decide +kernel
theorem dX12_liking_8 : decode cX12_liking 8 = .ok (.aload_n 0, 1) := by decide +kernel
theorem dX12_liking_9 : decode cX12_liking 9 = .ok (.iload_n 2, 1) := by decide +kernel
theorem dX12_liking_10 : decode cX12_liking 10 = .ok (.invokevirtual 229, 3) := by decide +kernel
theorem dX12_liking_13 : decode cX12_liking 13 = .ok (.ifCond .eq 13, 3) := by decide +kernel
theorem dX12_liking_16 : decode cX12_liking 16 = .ok (.aload_n 0, 1) := by decide +kernel
theorem dX12_liking_17 : decode cX12_liking 17 = .ok (.iload_n 1, 1) := by decide +kernel
theorem dX12_liking_18 : decode cX12_liking 18 = .ok (.iload_n 2, 1) := by decide +kernel
theorem dX12_liking_19 : decode cX12_liking 19 = .ok (.invokevirtual 254, 3) := by decide +kernel
theorem dX12_liking_22 : decode cX12_liking 22 = .ok (.i2l, 1) := by decide +kernel
theorem dX12_liking_23 : decode cX12_liking 23 = .ok (.goto 6, 3) := by decide +kernel
theorem dX12_liking_26 : decode cX12_liking 26 = .ok (.ldc2_w 258, 3) := by decide +kernel
theorem dX12_liking_29 : decode cX12_liking 29 = .ok (.lreturn, 1) := by decide +kernel
theorem dX12_pays_0 : decode cX12_pays 0 = .ok (.aload_n 0, 1) := by decide +kernel
theorem dX12_pays_1 : decode cX12_pays 1 = .ok (.iload_n 1, 1) := by decide +kernel
theorem dX12_pays_2 : decode cX12_pays 2 = .ok (.invokevirtual 239, 3) := by decide +kernel
theorem dX12_pays_5 : decode cX12_pays 5 = .ok (.ifCond .eq 21, 3) := by decide +kernel
theorem dX12_pays_8 : decode cX12_pays 8 = .ok (.iload_n 2, 1) := by decide +kernel
theorem dX12_pays_9 : decode cX12_pays 9 = .ok (.iconst (-1), 1) := by decide +kernel
theorem dX12_pays_10 : decode cX12_pays 10 = .ok (.if_icmp .eq 11, 3) := by decide +kernel
theorem dX12_pays_13 : decode cX12_pays 13 = .ok (.aload_n 0, 1) := by decide +kernel
theorem dX12_pays_14 : decode cX12_pays 14 = .ok (.iload_n 2, 1) := by decide +kernel
theorem dX12_pays_15 : decode cX12_pays 15 = .ok (.invokevirtual 239, 3) := by decide +kernel
theorem dX12_pays_18 : decode cX12_pays 18 = .ok (.ifCond .eq 8, 3) := by decide +kernel
theorem dX12_pays_21 : decode cX12_pays 21 = .ok (.iload_n 1, 1) := by decide +kernel
theorem dX12_pays_22 : decode cX12_pays 22 = .ok (.iload_n 2, 1) := by decide +kernel
theorem dX12_pays_23 : decode cX12_pays 23 = .ok (.if_icmp .ne 6, 3) := by decide +kernel
theorem dX12_pays_26 : decode cX12_pays 26 = .ok (.bipush (-2), 2) := by decide +kernel
theorem dX12_pays_28 : decode cX12_pays 28 = .ok (.ireturn, 1) := by decide +kernel
theorem dX12_pays_29 : decode cX12_pays 29 = .ok (.aload_n 0, 1) := by decide +kernel
theorem dX12_pays_30 : decode cX12_pays 30 = .ok (.getfield 86, 3) := by decide +kernel
theorem dX12_pays_33 : decode cX12_pays 33 = .ok (.iload_n 1, 1) := by decide +kernel
theorem dX12_pays_34 : decode cX12_pays 34 = .ok (.baload, 1) := by decide +kernel
theorem dX12_pays_35 : decode cX12_pays 35 = .ok (.ifCond .eq 17, 3) := by decide +kernel
theorem dX12_pays_38 : decode cX12_pays 38 = .ok (.iload_n 2, 1) := by decide +kernel
theorem dX12_pays_39 : decode cX12_pays 39 = .ok (.iconst (-1), 1) := by decide +kernel
theorem dX12_pays_40 : decode cX12_pays 40 = .ok (.if_icmp .eq 15, 3) := by decide +kernel
theorem dX12_pays_43 : decode cX12_pays 43 = .ok (.aload_n 0, 1) := by decide +kernel
theorem dX12_pays_44 : decode cX12_pays 44 = .ok (.getfield 86, 3) := by decide +kernel
theorem dX12_pays_47 : decode cX12_pays 47 = .ok (.iload_n 2, 1) := by decide +kernel
theorem dX12_pays_48 : decode cX12_pays 48 = .ok (.baload, 1) := by decide +kernel
theorem dX12_pays_49 : decode cX12_pays 49 = .ok (.ifCond .ne 6, 3) := by decide +kernel
theorem dX12_pays_52 : decode cX12_pays 52 = .ok (.bipush (-5), 2) := by decide +kernel
theorem dX12_pays_54 : decode cX12_pays 54 = .ok (.ireturn, 1) := by decide +kernel
theorem dX12_pays_55 : decode cX12_pays 55 = .ok (.aload_n 0, 1) := by decide +kernel
theorem dX12_pays_56 : decode cX12_pays 56 = .ok (.getfield 77, 3) := by decide +kernel
theorem dX12_pays_59 : decode cX12_pays 59 = .ok (.iload_n 1, 1) := by decide +kernel
theorem dX12_pays_60 : decode cX12_pays 60 = .ok (.iaload, 1) := by decide +kernel
theorem dX12_pays_61 : decode cX12_pays 61 = .ok (.istore_n 3, 1) := by decide +kernel
theorem dX12_pays_62 : decode cX12_pays 62 = .ok (.aload_n 0, 1) := by decide +kernel
theorem dX12_pays_63 : decode cX12_pays 63 = .ok (.getfield 77, 3) := by decide +kernel
theorem dX12_pays_66 : decode cX12_pays 66 = .ok (.iload_n 1, 1) := by decide +kernel
theorem dX12_pays_67 : decode cX12_pays 67 = .ok (.iload_n 2, 1) := by decide +kernel
theorem dX12_pays_68 : decode cX12_pays 68 = .ok (.iastore, 1) := by decide +kernel
theorem dX12_pays_69 : decode cX12_pays 69 = .ok (.iload_n 3, 1) := by decide +kernel
theorem dX12_pays_70 : decode cX12_pays 70 = .ok (.ireturn, 1) := by decide +kernel
theorem dX12_putBack_0 : decode cX12_putBack 0 = .ok (.aload_n 0, 1) := by decide +kernel
theorem dX12_putBack_1 : decode cX12_putBack 1 = .ok (.iload_n 1, 1) := by decide +kernel
theorem dX12_putBack_2 : decode cX12_putBack 2 = .ok (.invokevirtual 239, 3) := by decide +kernel
theorem dX12_putBack_5 : decode cX12_putBack 5 = .ok (.ifCond .ne 6, 3) := by decide +kernel
theorem dX12_putBack_8 : decode cX12_putBack 8 = .ok (.bipush (-2), 2) := by decide +kernel
theorem dX12_putBack_10 : decode cX12_putBack 10 = .ok (.ireturn, 1) := by decide +kernel
theorem dX12_putBack_11 : decode cX12_putBack 11 = .ok (.aload_n 0, 1) := by decide +kernel
theorem dX12_putBack_12 : decode cX12_putBack 12 = .ok (.getfield 86, 3) := by decide +kernel
theorem dX12_putBack_15 : decode cX12_putBack 15 = .ok (.iload_n 1, 1) := by decide +kernel
theorem dX12_putBack_16 : decode cX12_putBack 16 = .ok (.baload, 1) := by decide +kernel
theorem dX12_putBack_17 : decode cX12_putBack 17 = .ok (.ifCond .eq 26, 3) := by decide +kernel
theorem dX12_putBack_20 : decode cX12_putBack 20 = .ok (.aload_n 0, 1) := by decide +kernel
theorem dX12_putBack_21 : decode cX12_putBack 21 = .ok (.getfield 80, 3) := by decide +kernel
theorem dX12_putBack_24 : decode cX12_putBack 24 = .ok (.iload_n 1, 1) := by decide +kernel
theorem dX12_putBack_25 : decode cX12_putBack 25 = .ok (.iaload, 1) := by decide +kernel
theorem dX12_putBack_26 : decode cX12_putBack 26 = .ok (.ifCond .lt 17, 3) := by decide +kernel
theorem dX12_putBack_29 : decode cX12_putBack 29 = .ok (.aload_n 0, 1) := by decide +kernel
theorem dX12_putBack_30 : decode cX12_putBack 30 = .ok (.getfield 47, 3) := by decide +kernel
theorem dX12_putBack_33 : decode cX12_putBack 33 = .ok (.aload_n 0, 1) := by decide +kernel
theorem dX12_putBack_34 : decode cX12_putBack 34 = .ok (.getfield 65, 3) := by decide +kernel
theorem dX12_putBack_37 : decode cX12_putBack 37 = .ok (.iload_n 1, 1) := by decide +kernel
theorem dX12_putBack_38 : decode cX12_putBack 38 = .ok (.iaload, 1) := by decide +kernel
theorem dX12_putBack_39 : decode cX12_putBack 39 = .ok (.iaload, 1) := by decide +kernel
theorem dX12_putBack_40 : decode cX12_putBack 40 = .ok (.ifCond .lt 6, 3) := by decide +kernel
theorem dX12_putBack_43 : decode cX12_putBack 43 = .ok (.bipush (-3), 2) := by decide +kernel
theorem dX12_putBack_45 : decode cX12_putBack 45 = .ok (.ireturn, 1) := by decide +kernel
theorem dX12_putBack_46 : decode cX12_putBack 46 = .ok (.aload_n 0, 1) := by decide +kernel
theorem dX12_putBack_47 : decode cX12_putBack 47 = .ok (.getfield 80, 3) := by decide +kernel
theorem dX12_putBack_50 : decode cX12_putBack 50 = .ok (.iload_n 1, 1) := by decide +kernel
theorem dX12_putBack_51 : decode cX12_putBack 51 = .ok (.iaload, 1) := by decide +kernel
theorem dX12_putBack_52 : decode cX12_putBack 52 = .ok (.istore_n 2, 1) := by decide +kernel
theorem dX12_putBack_53 : decode cX12_putBack 53 = .ok (.aload_n 0, 1) := by decide +kernel
theorem dX12_putBack_54 : decode cX12_putBack 54 = .ok (.getfield 80, 3) := by decide +kernel
theorem dX12_putBack_57 : decode cX12_putBack 57 = .ok (.iload_n 1, 1) := by decide +kernel
theorem dX12_putBack_58 : decode cX12_putBack 58 = .ok (.iconst (-1), 1) := by decide +kernel
theorem dX12_putBack_59 : decode cX12_putBack 59 = .ok (.iastore, 1) := by decide +kernel
theorem dX12_putBack_60 : decode cX12_putBack 60 = .ok (.aload_n 0, 1) := by decide +kernel
theorem dX12_putBack_61 : decode cX12_putBack 61 = .ok (.getfield 41, 3) := by decide +kernel
theorem dX12_putBack_64 : decode cX12_putBack 64 = .ok (.iload_n 2, 1) := by decide +kernel
theorem dX12_putBack_65 : decode cX12_putBack 65 = .ok (.iconst 0, 1) := by decide +kernel
theorem dX12_putBack_66 : decode cX12_putBack 66 = .ok (.iastore, 1) := by decide +kernel
theorem dX12_putBack_67 : decode cX12_putBack 67 = .ok (.aload_n 0, 1) := by decide +kernel
theorem dX12_putBack_68 : decode cX12_putBack 68 = .ok (.getfield 44, 3) := by decide +kernel
theorem dX12_putBack_71 : decode cX12_putBack 71 = .ok (.iload_n 2, 1) := by decide +kernel
theorem dX12_putBack_72 : decode cX12_putBack 72 = .ok (.aload_n 0, 1) := by decide +kernel
theorem dX12_putBack_73 : decode cX12_putBack 73 = .ok (.getfield 65, 3) := by decide +kernel
theorem dX12_putBack_76 : decode cX12_putBack 76 = .ok (.iload_n 1, 1) := by decide +kernel
theorem dX12_putBack_77 : decode cX12_putBack 77 = .ok (.iaload, 1) := by decide +kernel
theorem dX12_putBack_78 : decode cX12_putBack 78 = .ok (.iastore, 1) := by decide +kernel
theorem dX12_putBack_79 : decode cX12_putBack 79 = .ok (.aload_n 0, 1) := by decide +kernel
theorem dX12_putBack_80 : decode cX12_putBack 80 = .ok (.getfield 47, 3) := by decide +kernel
theorem dX12_putBack_83 : decode cX12_putBack 83 = .ok (.aload_n 0, 1) := by decide +kernel
theorem dX12_putBack_84 : decode cX12_putBack 84 = .ok (.getfield 65, 3) := by decide +kernel
theorem dX12_putBack_87 : decode cX12_putBack 87 = .ok (.iload_n 1, 1) := by decide +kernel
theorem dX12_putBack_88 : decode cX12_putBack 88 = .ok (.iaload, 1) := by decide +kernel
theorem dX12_putBack_89 : decode cX12_putBack 89 = .ok (.iload_n 2, 1) := by decide +kernel
theorem dX12_putBack_90 : decode cX12_putBack 90 = .ok (.iastore, 1) := by decide +kernel
theorem dX12_putBack_91 : decode cX12_putBack 91 = .ok (.aload_n 0, 1) := by decide +kernel
theorem dX12_putBack_92 : decode cX12_putBack 92 = .ok (.getfield 71, 3) := by decide +kernel
theorem dX12_putBack_95 : decode cX12_putBack 95 = .ok (.iload_n 1, 1) := by decide +kernel
theorem dX12_putBack_96 : decode cX12_putBack 96 = .ok (.dup2, 1) := by decide +kernel
theorem dX12_putBack_97 : decode cX12_putBack 97 = .ok (.iaload, 1) := by decide +kernel
theorem dX12_putBack_98 : decode cX12_putBack 98 = .ok (.iconst 1, 1) := by decide +kernel
theorem dX12_putBack_99 : decode cX12_putBack 99 = .ok (.isub, 1) := by decide +kernel
theorem dX12_putBack_100 : decode cX12_putBack 100 = .ok (.iastore, 1) := by decide +kernel
theorem dX12_putBack_101 : decode cX12_putBack 101 = .ok (.iload_n 2, 1) := by decide +kernel
theorem dX12_putBack_102 : decode cX12_putBack 102 = .ok (.ireturn, 1) := by decide +kernel
theorem dX12_ruleZero_0 : decode cX12_ruleZero 0 = .ok (.aload_n 0, 1) := by decide +kernel
theorem dX12_ruleZero_1 : decode cX12_ruleZero 1 = .ok (.getfield 103, 3) := by decide +kernel
theorem dX12_ruleZero_4 : decode cX12_ruleZero 4 = .ok (.iconst 0, 1) := by decide +kernel
theorem dX12_ruleZero_5 : decode cX12_ruleZero 5 = .ok (.iconst 5, 1) := by decide +kernel
theorem dX12_ruleZero_6 : decode cX12_ruleZero 6 = .ok (.iastore, 1) := by decide +kernel
theorem dX12_ruleZero_7 : decode cX12_ruleZero 7 = .ok (.aload_n 0, 1) := by decide +kernel
theorem dX12_ruleZero_8 : decode cX12_ruleZero 8 = .ok (.getfield 106, 3) := by decide +kernel
theorem dX12_ruleZero_11 : decode cX12_ruleZero 11 = .ok (.iconst 0, 1) := by decide +kernel
theorem dX12_ruleZero_12 : decode cX12_ruleZero 12 = .ok (.iconst 4, 1) := by decide +kernel
theorem dX12_ruleZero_13 : decode cX12_ruleZero 13 = .ok (.iastore, 1) := by decide +kernel
theorem dX12_ruleZero_14 : decode cX12_ruleZero 14 = .ok (.aload_n 0, 1) := by decide +kernel
theorem dX12_ruleZero_15 : decode cX12_ruleZero 15 = .ok (.getfield 106, 3) := by decide +kernel
theorem dX12_ruleZero_18 : decode cX12_ruleZero 18 = .ok (.iconst 1, 1) := by decide +kernel
theorem dX12_ruleZero_19 : decode cX12_ruleZero 19 = .ok (.sipush 10000, 3) := by decide +kernel
theorem dX12_ruleZero_22 : decode cX12_ruleZero 22 = .ok (.iastore, 1) := by decide +kernel
theorem dX12_ruleZero_23 : decode cX12_ruleZero 23 = .ok (.aload_n 0, 1) := by decide +kernel
theorem dX12_ruleZero_24 : decode cX12_ruleZero 24 = .ok (.getfield 106, 3) := by decide +kernel
theorem dX12_ruleZero_27 : decode cX12_ruleZero 27 = .ok (.iconst 2, 1) := by decide +kernel
theorem dX12_ruleZero_28 : decode cX12_ruleZero 28 = .ok (.sipush 10002, 3) := by decide +kernel
theorem dX12_ruleZero_31 : decode cX12_ruleZero 31 = .ok (.iastore, 1) := by decide +kernel
theorem dX12_ruleZero_32 : decode cX12_ruleZero 32 = .ok (.aload_n 0, 1) := by decide +kernel
theorem dX12_ruleZero_33 : decode cX12_ruleZero 33 = .ok (.getfield 106, 3) := by decide +kernel
theorem dX12_ruleZero_36 : decode cX12_ruleZero 36 = .ok (.iconst 3, 1) := by decide +kernel
theorem dX12_ruleZero_37 : decode cX12_ruleZero 37 = .ok (.bipush (-6), 2) := by decide +kernel
theorem dX12_ruleZero_39 : decode cX12_ruleZero 39 = .ok (.iastore, 1) := by decide +kernel
theorem dX12_ruleZero_40 : decode cX12_ruleZero 40 = .ok (.aload_n 0, 1) := by decide +kernel
theorem dX12_ruleZero_41 : decode cX12_ruleZero 41 = .ok (.getfield 106, 3) := by decide +kernel
theorem dX12_ruleZero_44 : decode cX12_ruleZero 44 = .ok (.iconst 4, 1) := by decide +kernel
theorem dX12_ruleZero_45 : decode cX12_ruleZero 45 = .ok (.bipush (-4), 2) := by decide +kernel
theorem dX12_ruleZero_47 : decode cX12_ruleZero 47 = .ok (.iastore, 1) := by decide +kernel
theorem dX12_ruleZero_48 : decode cX12_ruleZero 48 = .ok (.aload_n 0, 1) := by decide +kernel
theorem dX12_ruleZero_49 : decode cX12_ruleZero 49 = .ok (.getfield 103, 3) := by decide +kernel
theorem dX12_ruleZero_52 : decode cX12_ruleZero 52 = .ok (.iconst 1, 1) := by decide +kernel
theorem dX12_ruleZero_53 : decode cX12_ruleZero 53 = .ok (.iconst 3, 1) := by decide +kernel
theorem dX12_ruleZero_54 : decode cX12_ruleZero 54 = .ok (.iastore, 1) := by decide +kernel
theorem dX12_ruleZero_55 : decode cX12_ruleZero 55 = .ok (.aload_n 0, 1) := by decide +kernel
theorem dX12_ruleZero_56 : decode cX12_ruleZero 56 = .ok (.getfield 106, 3) := by decide +kernel
theorem dX12_ruleZero_59 : decode cX12_ruleZero 59 = .ok (.sipush 160, 3) := by decide +kernel
theorem dX12_ruleZero_62 : decode cX12_ruleZero 62 = .ok (.sipush 10005, 3) := by decide +kernel
theorem dX12_ruleZero_65 : decode cX12_ruleZero 65 = .ok (.iastore, 1) := by decide +kernel
theorem dX12_ruleZero_66 : decode cX12_ruleZero 66 = .ok (.aload_n 0, 1) := by decide +kernel
theorem dX12_ruleZero_67 : decode cX12_ruleZero 67 = .ok (.getfield 106, 3) := by decide +kernel
theorem dX12_ruleZero_70 : decode cX12_ruleZero 70 = .ok (.sipush 161, 3) := by decide +kernel
theorem dX12_ruleZero_73 : decode cX12_ruleZero 73 = .ok (.sipush 10003, 3) := by decide +kernel
theorem dX12_ruleZero_76 : decode cX12_ruleZero 76 = .ok (.iastore, 1) := by decide +kernel
theorem dX12_ruleZero_77 : decode cX12_ruleZero 77 = .ok (.aload_n 0, 1) := by decide +kernel
theorem dX12_ruleZero_78 : decode cX12_ruleZero 78 = .ok (.getfield 106, 3) := by decide +kernel
theorem dX12_ruleZero_81 : decode cX12_ruleZero 81 = .ok (.sipush 162, 3) := by decide +kernel
theorem dX12_ruleZero_84 : decode cX12_ruleZero 84 = .ok (.bipush (-5), 2) := by decide +kernel
theorem dX12_ruleZero_86 : decode cX12_ruleZero 86 = .ok (.iastore, 1) := by decide +kernel
theorem dX12_ruleZero_87 : decode cX12_ruleZero 87 = .ok (.return_, 1) := by decide +kernel
theorem dX12_feed_0 : decode cX12_feed 0 = .ok (.aload_n 0, 1) := by decide +kernel
theorem dX12_feed_1 : decode cX12_feed 1 = .ok (.iload_n 1, 1) := by decide +kernel
theorem dX12_feed_2 : decode cX12_feed 2 = .ok (.iconst 1, 1) := by decide +kernel
theorem dX12_feed_3 : decode cX12_feed 3 = .ok (.bipush 8, 2) := by decide +kernel
theorem dX12_feed_5 : decode cX12_feed 5 = .ok (.invokevirtual 217, 3) := by decide +kernel
theorem dX12_feed_8 : decode cX12_feed 8 = .ok (.ifCond .ne 6, 3) := by decide +kernel
theorem dX12_feed_11 : decode cX12_feed 11 = .ok (.bipush (-2), 2) := by decide +kernel
theorem dX12_feed_13 : decode cX12_feed 13 = .ok (.ireturn, 1) := by decide +kernel
theorem dX12_feed_14 : decode cX12_feed 14 = .ok (.aload_n 0, 1) := by decide +kernel
theorem dX12_feed_15 : decode cX12_feed 15 = .ok (.getfield 94, 3) := by decide +kernel
theorem dX12_feed_18 : decode cX12_feed 18 = .ok (.iload_n 1, 1) := by decide +kernel
theorem dX12_feed_19 : decode cX12_feed 19 = .ok (.iadd, 1) := by decide +kernel
theorem dX12_feed_20 : decode cX12_feed 20 = .ok (.sipush 160, 3) := by decide +kernel
theorem dX12_feed_23 : decode cX12_feed 23 = .ok (.if_icmp .le 6, 3) := by decide +kernel
theorem dX12_feed_26 : decode cX12_feed 26 = .ok (.bipush (-4), 2) := by decide +kernel
theorem dX12_feed_28 : decode cX12_feed 28 = .ok (.ireturn, 1) := by decide +kernel
theorem dX12_feed_29 : decode cX12_feed 29 = .ok (.iconst 0, 1) := by decide +kernel
theorem dX12_feed_30 : decode cX12_feed 30 = .ok (.istore 4, 2) := by decide +kernel
theorem dX12_feed_32 : decode cX12_feed 32 = .ok (.iload 4, 2) := by decide +kernel
theorem dX12_feed_34 : decode cX12_feed 34 = .ok (.iload_n 1, 1) := by decide +kernel
theorem dX12_feed_35 : decode cX12_feed 35 = .ok (.if_icmp .ge 37, 3) := by decide +kernel
theorem dX12_feed_38 : decode cX12_feed 38 = .ok (.aload_n 0, 1) := by decide +kernel
theorem dX12_feed_39 : decode cX12_feed 39 = .ok (.getfield 90, 3) := by decide +kernel
theorem dX12_feed_42 : decode cX12_feed 42 = .ok (.aload_n 0, 1) := by decide +kernel
theorem dX12_feed_43 : decode cX12_feed 43 = .ok (.getfield 94, 3) := by decide +kernel
theorem dX12_feed_46 : decode cX12_feed 46 = .ok (.lload_n 2, 1) := by decide +kernel
theorem dX12_feed_47 : decode cX12_feed 47 = .ok (.bipush 8, 2) := by decide +kernel
theorem dX12_feed_49 : decode cX12_feed 49 = .ok (.iload 4, 2) := by decide +kernel
theorem dX12_feed_51 : decode cX12_feed 51 = .ok (.imul, 1) := by decide +kernel
theorem dX12_feed_52 : decode cX12_feed 52 = .ok (.lshr, 1) := by decide +kernel
theorem dX12_feed_53 : decode cX12_feed 53 = .ok (.l2i, 1) := by decide +kernel
theorem dX12_feed_54 : decode cX12_feed 54 = .ok (.i2b, 1) := by decide +kernel
theorem dX12_feed_55 : decode cX12_feed 55 = .ok (.bastore, 1) := by decide +kernel
theorem dX12_feed_56 : decode cX12_feed 56 = .ok (.aload_n 0, 1) := by decide +kernel
theorem dX12_feed_57 : decode cX12_feed 57 = .ok (.dup, 1) := by decide +kernel
theorem dX12_feed_58 : decode cX12_feed 58 = .ok (.getfield 94, 3) := by decide +kernel
theorem dX12_feed_61 : decode cX12_feed 61 = .ok (.iconst 1, 1) := by decide +kernel
theorem dX12_feed_62 : decode cX12_feed 62 = .ok (.iadd, 1) := by decide +kernel
theorem dX12_feed_63 : decode cX12_feed 63 = .ok (.putfield 94, 3) := by decide +kernel
theorem dX12_feed_66 : decode cX12_feed 66 = .ok (.iinc 4 1, 3) := by decide +kernel
theorem dX12_feed_69 : decode cX12_feed 69 = .ok (.goto (-37), 3) := by decide +kernel
theorem dX12_feed_72 : decode cX12_feed 72 = .ok (.aload_n 0, 1) := by decide +kernel
theorem dX12_feed_73 : decode cX12_feed 73 = .ok (.getfield 94, 3) := by decide +kernel
theorem dX12_feed_76 : decode cX12_feed 76 = .ok (.ireturn, 1) := by decide +kernel
theorem dX12_isLetter_0 : decode cX12_isLetter 0 = .ok (.iload_n 1, 1) := by decide +kernel
theorem dX12_isLetter_1 : decode cX12_isLetter 1 = .ok (.bipush 97, 2) := by decide +kernel
theorem dX12_isLetter_3 : decode cX12_isLetter 3 = .ok (.if_icmp .lt 13, 3) := by decide +kernel
theorem dX12_isLetter_6 : decode cX12_isLetter 6 = .ok (.iload_n 1, 1) := by decide +kernel
theorem dX12_isLetter_7 : decode cX12_isLetter 7 = .ok (.bipush 122, 2) := by decide +kernel
theorem dX12_isLetter_9 : decode cX12_isLetter 9 = .ok (.if_icmp .gt 7, 3) := by decide +kernel
theorem dX12_isLetter_12 : decode cX12_isLetter 12 = .ok (.iconst 1, 1) := by decide +kernel
theorem dX12_isLetter_13 : decode cX12_isLetter 13 = .ok (.goto 4, 3) := by decide +kernel
theorem dX12_isLetter_16 : decode cX12_isLetter 16 = .ok (.iconst 0, 1) := by decide +kernel
theorem dX12_isLetter_17 : decode cX12_isLetter 17 = .ok (.ireturn, 1) := by decide +kernel
theorem dX12_isDigit_0 : decode cX12_isDigit 0 = .ok (.iload_n 1, 1) := by decide +kernel
theorem dX12_isDigit_1 : decode cX12_isDigit 1 = .ok (.bipush 48, 2) := by decide +kernel
theorem dX12_isDigit_3 : decode cX12_isDigit 3 = .ok (.if_icmp .lt 13, 3) := by decide +kernel
theorem dX12_isDigit_6 : decode cX12_isDigit 6 = .ok (.iload_n 1, 1) := by decide +kernel
theorem dX12_isDigit_7 : decode cX12_isDigit 7 = .ok (.bipush 57, 2) := by decide +kernel
theorem dX12_isDigit_9 : decode cX12_isDigit 9 = .ok (.if_icmp .gt 7, 3) := by decide +kernel
theorem dX12_isDigit_12 : decode cX12_isDigit 12 = .ok (.iconst 1, 1) := by decide +kernel
theorem dX12_isDigit_13 : decode cX12_isDigit 13 = .ok (.goto 4, 3) := by decide +kernel
theorem dX12_isDigit_16 : decode cX12_isDigit 16 = .ok (.iconst 0, 1) := by decide +kernel
theorem dX12_isDigit_17 : decode cX12_isDigit 17 = .ok (.ireturn, 1) := by decide +kernel
theorem dX12_isWord_0 : decode cX12_isWord 0 = .ok (.lload_n 1, 1) := by decide +kernel
theorem dX12_isWord_1 : decode cX12_isWord 1 = .ok (.lstore_n 3, 1) := by decide +kernel
theorem dX12_isWord_2 : decode cX12_isWord 2 = .ok (.aload_n 0, 1) := by decide +kernel
theorem dX12_isWord_3 : decode cX12_isWord 3 = .ok (.getfield 109, 3) := by decide +kernel
theorem dX12_isWord_6 : decode cX12_isWord 6 = .ok (.iconst 1, 1) := by decide +kernel
theorem dX12_isWord_7 : decode cX12_isWord 7 = .ok (.isub, 1) := by decide +kernel
theorem dX12_isWord_8 : decode cX12_isWord 8 = .ok (.istore 5, 2) := by decide +kernel
theorem dX12_isWord_10 : decode cX12_isWord 10 = .ok (.iload 5, 2) := by decide +kernel
theorem dX12_isWord_12 : decode cX12_isWord 12 = .ok (.aload_n 0, 1) := by decide +kernel
theorem dX12_isWord_13 : decode cX12_isWord 13 = .ok (.getfield 118, 3) := by decide +kernel
theorem dX12_isWord_16 : decode cX12_isWord 16 = .ok (.if_icmp .lt 39, 3) := by decide +kernel
theorem dX12_isWord_19 : decode cX12_isWord 19 = .ok (.lload_n 3, 1) := by decide +kernel
theorem dX12_isWord_20 : decode cX12_isWord 20 = .ok (.lconst 0, 1) := by decide +kernel
theorem dX12_isWord_21 : decode cX12_isWord 21 = .ok (.lcmp, 1) := by decide +kernel
theorem dX12_isWord_22 : decode cX12_isWord 22 = .ok (.ifCond .le 33, 3) := by decide +kernel
theorem dX12_isWord_25 : decode cX12_isWord 25 = .ok (.lload_n 3, 1) := by decide +kernel
theorem dX12_isWord_26 : decode cX12_isWord 26 = .ok (.ldc2_w 260, 3) := by decide +kernel
theorem dX12_isWord_29 : decode cX12_isWord 29 = .ok (.land, 1) := by decide +kernel
theorem dX12_isWord_30 : decode cX12_isWord 30 = .ok (.aload_n 0, 1) := by decide +kernel
theorem dX12_isWord_31 : decode cX12_isWord 31 = .ok (.getfield 90, 3) := by decide +kernel
theorem dX12_isWord_34 : decode cX12_isWord 34 = .ok (.iload 5, 2) := by decide +kernel
theorem dX12_isWord_36 : decode cX12_isWord 36 = .ok (.baload, 1) := by decide +kernel
theorem dX12_isWord_37 : decode cX12_isWord 37 = .ok (.bipush 96, 2) := by decide +kernel
theorem dX12_isWord_39 : decode cX12_isWord 39 = .ok (.isub, 1) := by decide +kernel
theorem dX12_isWord_40 : decode cX12_isWord 40 = .ok (.i2l, 1) := by decide +kernel
theorem dX12_isWord_41 : decode cX12_isWord 41 = .ok (.lcmp, 1) := by decide +kernel
theorem dX12_isWord_42 : decode cX12_isWord 42 = .ok (.ifCond .ne 13, 3) := by decide +kernel
theorem dX12_isWord_45 : decode cX12_isWord 45 = .ok (.lload_n 3, 1) := by decide +kernel
theorem dX12_isWord_46 : decode cX12_isWord 46 = .ok (.iconst 5, 1) := by decide +kernel
theorem dX12_isWord_47 : decode cX12_isWord 47 = .ok (.lshr, 1) := by decide +kernel
theorem dX12_isWord_48 : decode cX12_isWord 48 = .ok (.lstore_n 3, 1) := by decide +kernel
theorem dX12_isWord_49 : decode cX12_isWord 49 = .ok (.iinc 5 (-1), 3) := by decide +kernel
theorem dX12_isWord_52 : decode cX12_isWord 52 = .ok (.goto (-42), 3) := by decide +kernel
theorem dX12_isWord_55 : decode cX12_isWord 55 = .ok (.lload_n 3, 1) := by decide +kernel
theorem dX12_isWord_56 : decode cX12_isWord 56 = .ok (.lconst 0, 1) := by decide +kernel
theorem dX12_isWord_57 : decode cX12_isWord 57 = .ok (.lcmp, 1) := by decide +kernel
theorem dX12_isWord_58 : decode cX12_isWord 58 = .ok (.ifCond .ne 18, 3) := by decide +kernel
theorem dX12_isWord_61 : decode cX12_isWord 61 = .ok (.iload 5, 2) := by decide +kernel
theorem dX12_isWord_63 : decode cX12_isWord 63 = .ok (.aload_n 0, 1) := by decide +kernel
theorem dX12_isWord_64 : decode cX12_isWord 64 = .ok (.getfield 118, 3) := by decide +kernel
theorem dX12_isWord_67 : decode cX12_isWord 67 = .ok (.iconst 1, 1) := by decide +kernel
theorem dX12_isWord_68 : decode cX12_isWord 68 = .ok (.isub, 1) := by decide +kernel
theorem dX12_isWord_69 : decode cX12_isWord 69 = .ok (.if_icmp .ne 7, 3) := by decide +kernel
theorem dX12_isWord_72 : decode cX12_isWord 72 = .ok (.iconst 1, 1) := by decide +kernel
theorem dX12_isWord_73 : decode cX12_isWord 73 = .ok (.goto 4, 3) := by decide +kernel
theorem dX12_isWord_76 : decode cX12_isWord 76 = .ok (.iconst 0, 1) := by decide +kernel
theorem dX12_isWord_77 : decode cX12_isWord 77 = .ok (.ireturn, 1) := by decide +kernel
theorem dX12_wordToken_0 : decode cX12_wordToken 0 = .ok (.aload_n 0, 1) := by decide +kernel
theorem dX12_wordToken_1 : decode cX12_wordToken 1 = .ok (.getfield 109, 3) := by decide +kernel
theorem dX12_wordToken_4 : decode cX12_wordToken 4 = .ok (.aload_n 0, 1) := by decide +kernel
theorem dX12_wordToken_5 : decode cX12_wordToken 5 = .ok (.getfield 94, 3) := by decide +kernel
theorem dX12_wordToken_8 : decode cX12_wordToken 8 = .ok (.if_icmp .ge 32, 3) := by decide +kernel
theorem dX12_wordToken_11 : decode cX12_wordToken 11 = .ok (.aload_n 0, 1) := by decide +kernel
theorem dX12_wordToken_12 : decode cX12_wordToken 12 = .ok (.aload_n 0, 1) := by decide +kernel
theorem dX12_wordToken_13 : decode cX12_wordToken 13 = .ok (.getfield 90, 3) := by decide +kernel
theorem dX12_wordToken_16 : decode cX12_wordToken 16 = .ok (.aload_n 0, 1) := by decide +kernel
theorem dX12_wordToken_17 : decode cX12_wordToken 17 = .ok (.getfield 109, 3) := by decide +kernel
theorem dX12_wordToken_20 : decode cX12_wordToken 20 = .ok (.baload, 1) := by decide +kernel
theorem dX12_wordToken_21 : decode cX12_wordToken 21 = .ok (.invokevirtual 262, 3) := by decide +kernel
theorem dX12_wordToken_24 : decode cX12_wordToken 24 = .ok (.ifCond .eq 16, 3) := by decide +kernel
theorem dX12_wordToken_27 : decode cX12_wordToken 27 = .ok (.aload_n 0, 1) := by decide +kernel
theorem dX12_wordToken_28 : decode cX12_wordToken 28 = .ok (.dup, 1) := by decide +kernel
theorem dX12_wordToken_29 : decode cX12_wordToken 29 = .ok (.getfield 109, 3) := by decide +kernel
theorem dX12_wordToken_32 : decode cX12_wordToken 32 = .ok (.iconst 1, 1) := by decide +kernel
theorem dX12_wordToken_33 : decode cX12_wordToken 33 = .ok (.iadd, 1) := by decide +kernel
theorem dX12_wordToken_34 : decode cX12_wordToken 34 = .ok (.putfield 109, 3) := by decide +kernel
theorem dX12_wordToken_37 : decode cX12_wordToken 37 = .ok (.goto (-37), 3) := by decide +kernel
theorem dX12_wordToken_40 : decode cX12_wordToken 40 = .ok (.aload_n 0, 1) := by decide +kernel
theorem dX12_wordToken_41 : decode cX12_wordToken 41 = .ok (.iconst 2, 1) := by decide +kernel
theorem dX12_wordToken_42 : decode cX12_wordToken 42 = .ok (.putfield 112, 3) := by decide +kernel
theorem dX12_wordToken_45 : decode cX12_wordToken 45 = .ok (.aload_n 0, 1) := by decide +kernel
theorem dX12_wordToken_46 : decode cX12_wordToken 46 = .ok (.aload_n 0, 1) := by decide +kernel
theorem dX12_wordToken_47 : decode cX12_wordToken 47 = .ok (.ldc2_w 265, 3) := by decide +kernel
theorem dX12_wordToken_50 : decode cX12_wordToken 50 = .ok (.invokevirtual 267, 3) := by decide +kernel
theorem dX12_wordToken_53 : decode cX12_wordToken 53 = .ok (.ifCond .eq 7, 3) := by decide +kernel
theorem dX12_wordToken_56 : decode cX12_wordToken 56 = .ok (.iconst 0, 1) := by decide +kernel
theorem dX12_wordToken_57 : decode cX12_wordToken 57 = .ok (.goto 74, 3) := by decide +kernel
theorem dX12_wordToken_60 : decode cX12_wordToken 60 = .ok (.aload_n 0, 1) := by decide +kernel
theorem dX12_wordToken_61 : decode cX12_wordToken 61 = .ok (.ldc2_w 271, 3) := by decide +kernel
theorem dX12_wordToken_64 : decode cX12_wordToken 64 = .ok (.invokevirtual 267, 3) := by decide +kernel
theorem dX12_wordToken_67 : decode cX12_wordToken 67 = .ok (.ifCond .eq 7, 3) := by decide +kernel
theorem dX12_wordToken_70 : decode cX12_wordToken 70 = .ok (.iconst 1, 1) := by decide +kernel
theorem dX12_wordToken_71 : decode cX12_wordToken 71 = .ok (.goto 60, 3) := by decide +kernel
theorem dX12_wordToken_74 : decode cX12_wordToken 74 = .ok (.aload_n 0, 1) := by decide +kernel
theorem dX12_wordToken_75 : decode cX12_wordToken 75 = .ok (.ldc2_w 273, 3) := by decide +kernel
theorem dX12_wordToken_78 : decode cX12_wordToken 78 = .ok (.invokevirtual 267, 3) := by decide +kernel
theorem dX12_wordToken_81 : decode cX12_wordToken 81 = .ok (.ifCond .eq 7, 3) := by decide +kernel
theorem dX12_wordToken_84 : decode cX12_wordToken 84 = .ok (.iconst 2, 1) := by decide +kernel
theorem dX12_wordToken_85 : decode cX12_wordToken 85 = .ok (.goto 46, 3) := by decide +kernel
theorem dX12_wordToken_88 : decode cX12_wordToken 88 = .ok (.aload_n 0, 1) := by decide +kernel
theorem dX12_wordToken_89 : decode cX12_wordToken 89 = .ok (.ldc2_w 275, 3) := by decide +kernel
theorem dX12_wordToken_92 : decode cX12_wordToken 92 = .ok (.invokevirtual 267, 3) := by decide +kernel
theorem dX12_wordToken_95 : decode cX12_wordToken 95 = .ok (.ifCond .eq 7, 3) := by decide +kernel
theorem dX12_wordToken_98 : decode cX12_wordToken 98 = .ok (.iconst 3, 1) := by decide +kernel
theorem dX12_wordToken_99 : decode cX12_wordToken 99 = .ok (.goto 32, 3) := by decide +kernel
theorem dX12_wordToken_102 : decode cX12_wordToken 102 = .ok (.aload_n 0, 1) := by decide +kernel
theorem dX12_wordToken_103 : decode cX12_wordToken 103 = .ok (.ldc2_w 277, 3) := by decide +kernel
theorem dX12_wordToken_106 : decode cX12_wordToken 106 = .ok (.invokevirtual 267, 3) := by decide +kernel
theorem dX12_wordToken_109 : decode cX12_wordToken 109 = .ok (.ifCond .eq 7, 3) := by decide +kernel
theorem dX12_wordToken_112 : decode cX12_wordToken 112 = .ok (.iconst 4, 1) := by decide +kernel
theorem dX12_wordToken_113 : decode cX12_wordToken 113 = .ok (.goto 18, 3) := by decide +kernel
theorem dX12_wordToken_116 : decode cX12_wordToken 116 = .ok (.aload_n 0, 1) := by decide +kernel
theorem dX12_wordToken_117 : decode cX12_wordToken 117 = .ok (.ldc2_w 279, 3) := by decide +kernel
theorem dX12_wordToken_120 : decode cX12_wordToken 120 = .ok (.invokevirtual 267, 3) := by decide +kernel
theorem dX12_wordToken_123 : decode cX12_wordToken 123 = .ok (.ifCond .eq 7, 3) := by decide +kernel
theorem dX12_wordToken_126 : decode cX12_wordToken 126 = .ok (.iconst 5, 1) := by decide +kernel
theorem dX12_wordToken_127 : decode cX12_wordToken 127 = .ok (.goto 4, 3) := by decide +kernel
theorem dX12_wordToken_130 : decode cX12_wordToken 130 = .ok (.iconst (-1), 1) := by decide +kernel
theorem dX12_wordToken_131 : decode cX12_wordToken 131 = .ok (.putfield 115, 3) := by decide +kernel
theorem dX12_wordToken_134 : decode cX12_wordToken 134 = .ok (.aload_n 0, 1) := by decide +kernel
theorem dX12_wordToken_135 : decode cX12_wordToken 135 = .ok (.getfield 115, 3) := by decide +kernel
theorem dX12_wordToken_138 : decode cX12_wordToken 138 = .ok (.ifCond .lt 4, 3) := by decide +kernel
theorem dX12_wordToken_141 : decode cX12_wordToken 141 = .ok (.return_, 1) := by decide +kernel
theorem dX12_wordToken_142 : decode cX12_wordToken 142 = .ok (.aload_n 0, 1) := by decide +kernel
theorem dX12_wordToken_143 : decode cX12_wordToken 143 = .ok (.iconst 3, 1) := by decide +kernel
theorem dX12_wordToken_144 : decode cX12_wordToken 144 = .ok (.putfield 112, 3) := by decide +kernel
theorem dX12_wordToken_147 : decode cX12_wordToken 147 = .ok (.aload_n 0, 1) := by decide +kernel
theorem dX12_wordToken_148 : decode cX12_wordToken 148 = .ok (.aload_n 0, 1) := by decide +kernel
theorem dX12_wordToken_149 : decode cX12_wordToken 149 = .ok (.ldc2_w 281, 3) := by decide +kernel
theorem dX12_wordToken_152 : decode cX12_wordToken 152 = .ok (.invokevirtual 267, 3) := by decide +kernel
theorem dX12_wordToken_155 : decode cX12_wordToken 155 = .ok (.ifCond .eq 7, 3) := by decide +kernel
theorem dX12_wordToken_158 : decode cX12_wordToken 158 = .ok (.iconst 0, 1) := by decide +kernel
theorem dX12_wordToken_159 : decode cX12_wordToken 159 = .ok (.goto 60, 3) := by decide +kernel
theorem dX12_wordToken_162 : decode cX12_wordToken 162 = .ok (.aload_n 0, 1) := by decide +kernel
theorem dX12_wordToken_163 : decode cX12_wordToken 163 = .ok (.ldc2_w 283, 3) := by decide +kernel
theorem dX12_wordToken_166 : decode cX12_wordToken 166 = .ok (.invokevirtual 267, 3) := by decide +kernel
theorem dX12_wordToken_169 : decode cX12_wordToken 169 = .ok (.ifCond .eq 7, 3) := by decide +kernel
theorem dX12_wordToken_172 : decode cX12_wordToken 172 = .ok (.iconst 1, 1) := by decide +kernel
theorem dX12_wordToken_173 : decode cX12_wordToken 173 = .ok (.goto 46, 3) := by decide +kernel
theorem dX12_wordToken_176 : decode cX12_wordToken 176 = .ok (.aload_n 0, 1) := by decide +kernel
theorem dX12_wordToken_177 : decode cX12_wordToken 177 = .ok (.ldc2_w 285, 3) := by decide +kernel
theorem dX12_wordToken_180 : decode cX12_wordToken 180 = .ok (.invokevirtual 267, 3) := by decide +kernel
theorem dX12_wordToken_183 : decode cX12_wordToken 183 = .ok (.ifCond .eq 7, 3) := by decide +kernel
theorem dX12_wordToken_186 : decode cX12_wordToken 186 = .ok (.iconst 2, 1) := by decide +kernel
theorem dX12_wordToken_187 : decode cX12_wordToken 187 = .ok (.goto 32, 3) := by decide +kernel
theorem dX12_wordToken_190 : decode cX12_wordToken 190 = .ok (.aload_n 0, 1) := by decide +kernel
theorem dX12_wordToken_191 : decode cX12_wordToken 191 = .ok (.ldc2_w 287, 3) := by decide +kernel
theorem dX12_wordToken_194 : decode cX12_wordToken 194 = .ok (.invokevirtual 267, 3) := by decide +kernel
theorem dX12_wordToken_197 : decode cX12_wordToken 197 = .ok (.ifCond .eq 7, 3) := by decide +kernel
theorem dX12_wordToken_200 : decode cX12_wordToken 200 = .ok (.iconst 3, 1) := by decide +kernel
theorem dX12_wordToken_201 : decode cX12_wordToken 201 = .ok (.goto 18, 3) := by decide +kernel
theorem dX12_wordToken_204 : decode cX12_wordToken 204 = .ok (.aload_n 0, 1) := by decide +kernel
theorem dX12_wordToken_205 : decode cX12_wordToken 205 = .ok (.ldc2_w 289, 3) := by decide +kernel
theorem dX12_wordToken_208 : decode cX12_wordToken 208 = .ok (.invokevirtual 267, 3) := by decide +kernel
theorem dX12_wordToken_211 : decode cX12_wordToken 211 = .ok (.ifCond .eq 7, 3) := by decide +kernel
theorem dX12_wordToken_214 : decode cX12_wordToken 214 = .ok (.iconst 4, 1) := by decide +kernel
theorem dX12_wordToken_215 : decode cX12_wordToken 215 = .ok (.goto 4, 3) := by decide +kernel
theorem dX12_wordToken_218 : decode cX12_wordToken 218 = .ok (.iconst (-1), 1) := by decide +kernel
theorem dX12_wordToken_219 : decode cX12_wordToken 219 = .ok (.putfield 115, 3) := by decide +kernel
theorem dX12_wordToken_222 : decode cX12_wordToken 222 = .ok (.aload_n 0, 1) := by decide +kernel
theorem dX12_wordToken_223 : decode cX12_wordToken 223 = .ok (.getfield 115, 3) := by decide +kernel
theorem dX12_wordToken_226 : decode cX12_wordToken 226 = .ok (.ifCond .ge 8, 3) := by decide +kernel
theorem dX12_wordToken_229 : decode cX12_wordToken 229 = .ok (.aload_n 0, 1) := by decide +kernel
theorem dX12_wordToken_230 : decode cX12_wordToken 230 = .ok (.iconst 5, 1) := by decide +kernel
theorem dX12_wordToken_231 : decode cX12_wordToken 231 = .ok (.putfield 112, 3) := by decide +kernel
theorem dX12_wordToken_234 : decode cX12_wordToken 234 = .ok (.return_, 1) := by decide +kernel
theorem dX12_next_0 : decode cX12_next 0 = .ok (.aload_n 0, 1) := by decide +kernel
theorem dX12_next_1 : decode cX12_next 1 = .ok (.getfield 109, 3) := by decide +kernel
theorem dX12_next_4 : decode cX12_next 4 = .ok (.aload_n 0, 1) := by decide +kernel
theorem dX12_next_5 : decode cX12_next 5 = .ok (.getfield 94, 3) := by decide +kernel
theorem dX12_next_8 : decode cX12_next 8 = .ok (.if_icmp .ge 44, 3) := by decide +kernel
theorem dX12_next_11 : decode cX12_next 11 = .ok (.aload_n 0, 1) := by decide +kernel
theorem dX12_next_12 : decode cX12_next 12 = .ok (.getfield 90, 3) := by decide +kernel
theorem dX12_next_15 : decode cX12_next 15 = .ok (.aload_n 0, 1) := by decide +kernel
theorem dX12_next_16 : decode cX12_next 16 = .ok (.getfield 109, 3) := by decide +kernel
theorem dX12_next_19 : decode cX12_next 19 = .ok (.baload, 1) := by decide +kernel
theorem dX12_next_20 : decode cX12_next 20 = .ok (.bipush 32, 2) := by decide +kernel
theorem dX12_next_22 : decode cX12_next 22 = .ok (.if_icmp .eq 17, 3) := by decide +kernel
theorem dX12_next_25 : decode cX12_next 25 = .ok (.aload_n 0, 1) := by decide +kernel
theorem dX12_next_26 : decode cX12_next 26 = .ok (.getfield 90, 3) := by decide +kernel
theorem dX12_next_29 : decode cX12_next 29 = .ok (.aload_n 0, 1) := by decide +kernel
theorem dX12_next_30 : decode cX12_next 30 = .ok (.getfield 109, 3) := by decide +kernel
theorem dX12_next_33 : decode cX12_next 33 = .ok (.baload, 1) := by decide +kernel
theorem dX12_next_34 : decode cX12_next 34 = .ok (.bipush 10, 2) := by decide +kernel
theorem dX12_next_36 : decode cX12_next 36 = .ok (.if_icmp .ne 16, 3) := by decide +kernel
theorem dX12_next_39 : decode cX12_next 39 = .ok (.aload_n 0, 1) := by decide +kernel
theorem dX12_next_40 : decode cX12_next 40 = .ok (.dup, 1) := by decide +kernel
theorem dX12_next_41 : decode cX12_next 41 = .ok (.getfield 109, 3) := by decide +kernel
theorem dX12_next_44 : decode cX12_next 44 = .ok (.iconst 1, 1) := by decide +kernel
theorem dX12_next_45 : decode cX12_next 45 = .ok (.iadd, 1) := by decide +kernel
theorem dX12_next_46 : decode cX12_next 46 = .ok (.putfield 109, 3) := by decide +kernel
theorem dX12_next_49 : decode cX12_next 49 = .ok (.goto (-49), 3) := by decide +kernel
theorem dX12_next_52 : decode cX12_next 52 = .ok (.aload_n 0, 1) := by decide +kernel
theorem dX12_next_53 : decode cX12_next 53 = .ok (.aload_n 0, 1) := by decide +kernel
theorem dX12_next_54 : decode cX12_next 54 = .ok (.getfield 109, 3) := by decide +kernel
theorem dX12_next_57 : decode cX12_next 57 = .ok (.putfield 118, 3) := by decide +kernel
theorem dX12_next_60 : decode cX12_next 60 = .ok (.aload_n 0, 1) := by decide +kernel
theorem dX12_next_61 : decode cX12_next 61 = .ok (.iconst 0, 1) := by decide +kernel
theorem dX12_next_62 : decode cX12_next 62 = .ok (.putfield 112, 3) := by decide +kernel
theorem dX12_next_65 : decode cX12_next 65 = .ok (.aload_n 0, 1) := by decide +kernel
theorem dX12_next_66 : decode cX12_next 66 = .ok (.getfield 109, 3) := by decide +kernel
theorem dX12_next_69 : decode cX12_next 69 = .ok (.aload_n 0, 1) := by decide +kernel
theorem dX12_next_70 : decode cX12_next 70 = .ok (.getfield 94, 3) := by decide +kernel
theorem dX12_next_73 : decode cX12_next 73 = .ok (.if_icmp .ne 4, 3) := by decide +kernel
theorem dX12_next_76 : decode cX12_next 76 = .ok (.return_, 1) := by decide +kernel
theorem dX12_next_77 : decode cX12_next 77 = .ok (.aload_n 0, 1) := by decide +kernel
theorem dX12_next_78 : decode cX12_next 78 = .ok (.getfield 90, 3) := by decide +kernel
theorem dX12_next_81 : decode cX12_next 81 = .ok (.aload_n 0, 1) := by decide +kernel
theorem dX12_next_82 : decode cX12_next 82 = .ok (.getfield 109, 3) := by decide +kernel
theorem dX12_next_85 : decode cX12_next 85 = .ok (.baload, 1) := by decide +kernel
theorem dX12_next_86 : decode cX12_next 86 = .ok (.istore_n 1, 1) := by decide +kernel
theorem dX12_next_87 : decode cX12_next 87 = .ok (.aload_n 0, 1) := by decide +kernel
theorem dX12_next_88 : decode cX12_next 88 = .ok (.iload_n 1, 1) := by decide +kernel
theorem dX12_next_89 : decode cX12_next 89 = .ok (.invokevirtual 262, 3) := by decide +kernel
theorem dX12_next_92 : decode cX12_next 92 = .ok (.ifCond .eq 8, 3) := by decide +kernel
theorem dX12_next_95 : decode cX12_next 95 = .ok (.aload_n 0, 1) := by decide +kernel
theorem dX12_next_96 : decode cX12_next 96 = .ok (.invokevirtual 291, 3) := by decide +kernel
theorem dX12_next_99 : decode cX12_next 99 = .ok (.return_, 1) := by decide +kernel
theorem dX12_next_100 : decode cX12_next 100 = .ok (.aload_n 0, 1) := by decide +kernel
theorem dX12_next_101 : decode cX12_next 101 = .ok (.iload_n 1, 1) := by decide +kernel
theorem dX12_next_102 : decode cX12_next 102 = .ok (.invokevirtual 294, 3) := by decide +kernel
theorem dX12_next_105 : decode cX12_next 105 = .ok (.ifCond .eq 115, 3) := by decide +kernel
theorem dX12_next_108 : decode cX12_next 108 = .ok (.aload_n 0, 1) := by decide +kernel
theorem dX12_next_109 : decode cX12_next 109 = .ok (.iconst 0, 1) := by decide +kernel
theorem dX12_next_110 : decode cX12_next 110 = .ok (.putfield 115, 3) := by decide +kernel
theorem dX12_next_113 : decode cX12_next 113 = .ok (.aload_n 0, 1) := by decide +kernel
theorem dX12_next_114 : decode cX12_next 114 = .ok (.getfield 109, 3) := by decide +kernel
theorem dX12_next_117 : decode cX12_next 117 = .ok (.aload_n 0, 1) := by decide +kernel
theorem dX12_next_118 : decode cX12_next 118 = .ok (.getfield 94, 3) := by decide +kernel
theorem dX12_next_121 : decode cX12_next 121 = .ok (.if_icmp .ge 76, 3) := by decide +kernel
theorem dX12_next_124 : decode cX12_next 124 = .ok (.aload_n 0, 1) := by decide +kernel
theorem dX12_next_125 : decode cX12_next 125 = .ok (.aload_n 0, 1) := by decide +kernel
theorem dX12_next_126 : decode cX12_next 126 = .ok (.getfield 90, 3) := by decide +kernel
theorem dX12_next_129 : decode cX12_next 129 = .ok (.aload_n 0, 1) := by decide +kernel
theorem dX12_next_130 : decode cX12_next 130 = .ok (.getfield 109, 3) := by decide +kernel
theorem dX12_next_133 : decode cX12_next 133 = .ok (.baload, 1) := by decide +kernel
theorem dX12_next_134 : decode cX12_next 134 = .ok (.invokevirtual 294, 3) := by decide +kernel
theorem dX12_next_137 : decode cX12_next 137 = .ok (.ifCond .eq 60, 3) := by decide +kernel
theorem dX12_next_140 : decode cX12_next 140 = .ok (.aload_n 0, 1) := by decide +kernel
theorem dX12_next_141 : decode cX12_next 141 = .ok (.aload_n 0, 1) := by decide +kernel
theorem dX12_next_142 : decode cX12_next 142 = .ok (.getfield 109, 3) := by decide +kernel
theorem dX12_next_145 : decode cX12_next 145 = .ok (.aload_n 0, 1) := by decide +kernel
theorem dX12_next_146 : decode cX12_next 146 = .ok (.getfield 118, 3) := by decide +kernel
theorem dX12_next_149 : decode cX12_next 149 = .ok (.isub, 1) := by decide +kernel
theorem dX12_next_150 : decode cX12_next 150 = .ok (.iconst 4, 1) := by decide +kernel
theorem dX12_next_151 : decode cX12_next 151 = .ok (.if_icmp .ge 26, 3) := by decide +kernel
theorem dX12_next_154 : decode cX12_next 154 = .ok (.bipush 10, 2) := by decide +kernel
theorem dX12_next_156 : decode cX12_next 156 = .ok (.aload_n 0, 1) := by decide +kernel
theorem dX12_next_157 : decode cX12_next 157 = .ok (.getfield 115, 3) := by decide +kernel
theorem dX12_next_160 : decode cX12_next 160 = .ok (.imul, 1) := by decide +kernel
theorem dX12_next_161 : decode cX12_next 161 = .ok (.aload_n 0, 1) := by decide +kernel
theorem dX12_next_162 : decode cX12_next 162 = .ok (.getfield 90, 3) := by decide +kernel
theorem dX12_next_165 : decode cX12_next 165 = .ok (.aload_n 0, 1) := by decide +kernel
theorem dX12_next_166 : decode cX12_next 166 = .ok (.getfield 109, 3) := by decide +kernel
theorem dX12_next_169 : decode cX12_next 169 = .ok (.baload, 1) := by decide +kernel
theorem dX12_next_170 : decode cX12_next 170 = .ok (.iadd, 1) := by decide +kernel
theorem dX12_next_171 : decode cX12_next 171 = .ok (.bipush 48, 2) := by decide +kernel
theorem dX12_next_173 : decode cX12_next 173 = .ok (.isub, 1) := by decide +kernel
theorem dX12_next_174 : decode cX12_next 174 = .ok (.goto 7, 3) := by decide +kernel
theorem dX12_next_177 : decode cX12_next 177 = .ok (.aload_n 0, 1) := by decide +kernel
theorem dX12_next_178 : decode cX12_next 178 = .ok (.getfield 115, 3) := by decide +kernel
theorem dX12_next_181 : decode cX12_next 181 = .ok (.putfield 115, 3) := by decide +kernel
theorem dX12_next_184 : decode cX12_next 184 = .ok (.aload_n 0, 1) := by decide +kernel
theorem dX12_next_185 : decode cX12_next 185 = .ok (.dup, 1) := by decide +kernel
theorem dX12_next_186 : decode cX12_next 186 = .ok (.getfield 109, 3) := by decide +kernel
theorem dX12_next_189 : decode cX12_next 189 = .ok (.iconst 1, 1) := by decide +kernel
theorem dX12_next_190 : decode cX12_next 190 = .ok (.iadd, 1) := by decide +kernel
theorem dX12_next_191 : decode cX12_next 191 = .ok (.putfield 109, 3) := by decide +kernel
theorem dX12_next_194 : decode cX12_next 194 = .ok (.goto (-81), 3) := by decide +kernel
theorem dX12_next_197 : decode cX12_next 197 = .ok (.aload_n 0, 1) := by decide +kernel
theorem dX12_next_198 : decode cX12_next 198 = .ok (.aload_n 0, 1) := by decide +kernel
theorem dX12_next_199 : decode cX12_next 199 = .ok (.getfield 109, 3) := by decide +kernel
theorem dX12_next_202 : decode cX12_next 202 = .ok (.aload_n 0, 1) := by decide +kernel
theorem dX12_next_203 : decode cX12_next 203 = .ok (.getfield 118, 3) := by decide +kernel
theorem dX12_next_206 : decode cX12_next 206 = .ok (.isub, 1) := by decide +kernel
theorem dX12_next_207 : decode cX12_next 207 = .ok (.iconst 4, 1) := by decide +kernel
theorem dX12_next_208 : decode cX12_next 208 = .ok (.if_icmp .le 7, 3) := by decide +kernel
theorem dX12_next_211 : decode cX12_next 211 = .ok (.iconst 5, 1) := by decide +kernel
theorem dX12_next_212 : decode cX12_next 212 = .ok (.goto 4, 3) := by decide +kernel
theorem dX12_next_215 : decode cX12_next 215 = .ok (.iconst 1, 1) := by decide +kernel
theorem dX12_next_216 : decode cX12_next 216 = .ok (.putfield 112, 3) := by decide +kernel
theorem dX12_next_219 : decode cX12_next 219 = .ok (.return_, 1) := by decide +kernel
theorem dX12_next_220 : decode cX12_next 220 = .ok (.aload_n 0, 1) := by decide +kernel
theorem dX12_next_221 : decode cX12_next 221 = .ok (.dup, 1) := by decide +kernel
theorem dX12_next_222 : decode cX12_next 222 = .ok (.getfield 109, 3) := by decide +kernel
theorem dX12_next_225 : decode cX12_next 225 = .ok (.iconst 1, 1) := by decide +kernel
theorem dX12_next_226 : decode cX12_next 226 = .ok (.iadd, 1) := by decide +kernel
theorem dX12_next_227 : decode cX12_next 227 = .ok (.putfield 109, 3) := by decide +kernel
theorem dX12_next_230 : decode cX12_next 230 = .ok (.aload_n 0, 1) := by decide +kernel
theorem dX12_next_231 : decode cX12_next 231 = .ok (.iload_n 1, 1) := by decide +kernel
theorem dX12_next_232 : decode cX12_next 232 = .ok (.putfield 115, 3) := by decide +kernel
theorem dX12_next_235 : decode cX12_next 235 = .ok (.aload_n 0, 1) := by decide +kernel
theorem dX12_next_236 : decode cX12_next 236 = .ok (.iload_n 1, 1) := by decide +kernel
theorem dX12_next_237 : decode cX12_next 237 = .ok (.bipush 40, 2) := by decide +kernel
theorem dX12_next_239 : decode cX12_next 239 = .ok (.if_icmp .eq 45, 3) := by decide +kernel
theorem dX12_next_242 : decode cX12_next 242 = .ok (.iload_n 1, 1) := by decide +kernel
theorem dX12_next_243 : decode cX12_next 243 = .ok (.bipush 41, 2) := by decide +kernel
theorem dX12_next_245 : decode cX12_next 245 = .ok (.if_icmp .eq 39, 3) := by decide +kernel
theorem dX12_next_248 : decode cX12_next 248 = .ok (.iload_n 1, 1) := by decide +kernel
theorem dX12_next_249 : decode cX12_next 249 = .ok (.bipush 59, 2) := by decide +kernel
theorem dX12_next_251 : decode cX12_next 251 = .ok (.if_icmp .eq 33, 3) := by decide +kernel
theorem dX12_next_254 : decode cX12_next 254 = .ok (.iload_n 1, 1) := by decide +kernel
theorem dX12_next_255 : decode cX12_next 255 = .ok (.bipush 43, 2) := by decide +kernel
theorem dX12_next_257 : decode cX12_next 257 = .ok (.if_icmp .eq 27, 3) := by decide +kernel
theorem dX12_next_260 : decode cX12_next 260 = .ok (.iload_n 1, 1) := by decide +kernel
theorem dX12_next_261 : decode cX12_next 261 = .ok (.bipush 45, 2) := by decide +kernel
theorem dX12_next_263 : decode cX12_next 263 = .ok (.if_icmp .eq 21, 3) := by decide +kernel
theorem dX12_next_266 : decode cX12_next 266 = .ok (.iload_n 1, 1) := by decide +kernel
theorem dX12_next_267 : decode cX12_next 267 = .ok (.bipush 42, 2) := by decide +kernel
theorem dX12_next_269 : decode cX12_next 269 = .ok (.if_icmp .eq 15, 3) := by decide +kernel
theorem dX12_next_272 : decode cX12_next 272 = .ok (.iload_n 1, 1) := by decide +kernel
theorem dX12_next_273 : decode cX12_next 273 = .ok (.bipush 60, 2) := by decide +kernel
theorem dX12_next_275 : decode cX12_next 275 = .ok (.if_icmp .eq 9, 3) := by decide +kernel
theorem dX12_next_278 : decode cX12_next 278 = .ok (.iload_n 1, 1) := by decide +kernel
theorem dX12_next_279 : decode cX12_next 279 = .ok (.bipush 61, 2) := by decide +kernel
theorem dX12_next_281 : decode cX12_next 281 = .ok (.if_icmp .ne 7, 3) := by decide +kernel
theorem dX12_next_284 : decode cX12_next 284 = .ok (.iconst 4, 1) := by decide +kernel
theorem dX12_next_285 : decode cX12_next 285 = .ok (.goto 4, 3) := by decide +kernel
theorem dX12_next_288 : decode cX12_next 288 = .ok (.iconst 5, 1) := by decide +kernel
theorem dX12_next_289 : decode cX12_next 289 = .ok (.putfield 112, 3) := by decide +kernel
theorem dX12_next_292 : decode cX12_next 292 = .ok (.return_, 1) := by decide +kernel
theorem dX12_isKey_0 : decode cX12_isKey 0 = .ok (.aload_n 0, 1) := by decide +kernel
theorem dX12_isKey_1 : decode cX12_isKey 1 = .ok (.getfield 112, 3) := by decide +kernel
theorem dX12_isKey_4 : decode cX12_isKey 4 = .ok (.iconst 3, 1) := by decide +kernel
theorem dX12_isKey_5 : decode cX12_isKey 5 = .ok (.if_icmp .ne 15, 3) := by decide +kernel
theorem dX12_isKey_8 : decode cX12_isKey 8 = .ok (.aload_n 0, 1) := by decide +kernel
theorem dX12_isKey_9 : decode cX12_isKey 9 = .ok (.getfield 115, 3) := by decide +kernel
theorem dX12_isKey_12 : decode cX12_isKey 12 = .ok (.iload_n 1, 1) := by decide +kernel
theorem dX12_isKey_13 : decode cX12_isKey 13 = .ok (.if_icmp .ne 7, 3) := by decide +kernel
theorem dX12_isKey_16 : decode cX12_isKey 16 = .ok (.iconst 1, 1) := by decide +kernel
theorem dX12_isKey_17 : decode cX12_isKey 17 = .ok (.goto 4, 3) := by decide +kernel
theorem dX12_isKey_20 : decode cX12_isKey 20 = .ok (.iconst 0, 1) := by decide +kernel
theorem dX12_isKey_21 : decode cX12_isKey 21 = .ok (.ireturn, 1) := by decide +kernel
theorem dX12_isSign_0 : decode cX12_isSign 0 = .ok (.aload_n 0, 1) := by decide +kernel
theorem dX12_isSign_1 : decode cX12_isSign 1 = .ok (.getfield 112, 3) := by decide +kernel
theorem dX12_isSign_4 : decode cX12_isSign 4 = .ok (.iconst 4, 1) := by decide +kernel
theorem dX12_isSign_5 : decode cX12_isSign 5 = .ok (.if_icmp .ne 15, 3) := by decide +kernel
theorem dX12_isSign_8 : decode cX12_isSign 8 = .ok (.aload_n 0, 1) := by decide +kernel
theorem dX12_isSign_9 : decode cX12_isSign 9 = .ok (.getfield 115, 3) := by decide +kernel
theorem dX12_isSign_12 : decode cX12_isSign 12 = .ok (.iload_n 1, 1) := by decide +kernel
theorem dX12_isSign_13 : decode cX12_isSign 13 = .ok (.if_icmp .ne 7, 3) := by decide +kernel
theorem dX12_isSign_16 : decode cX12_isSign 16 = .ok (.iconst 1, 1) := by decide +kernel
theorem dX12_isSign_17 : decode cX12_isSign 17 = .ok (.goto 4, 3) := by decide +kernel
theorem dX12_isSign_20 : decode cX12_isSign 20 = .ok (.iconst 0, 1) := by decide +kernel
theorem dX12_isSign_21 : decode cX12_isSign 21 = .ok (.ireturn, 1) := by decide +kernel
theorem dX12_put_0 : decode cX12_put 0 = .ok (.aload_n 0, 1) := by decide +kernel
theorem dX12_put_1 : decode cX12_put 1 = .ok (.getfield 106, 3) := by decide +kernel
theorem dX12_put_4 : decode cX12_put 4 = .ok (.sipush 160, 3) := by decide +kernel
theorem dX12_put_7 : decode cX12_put 7 = .ok (.aload_n 0, 1) := by decide +kernel
theorem dX12_put_8 : decode cX12_put 8 = .ok (.getfield 136, 3) := by decide +kernel
theorem dX12_put_11 : decode cX12_put 11 = .ok (.imul, 1) := by decide +kernel
theorem dX12_put_12 : decode cX12_put 12 = .ok (.aload_n 0, 1) := by decide +kernel
theorem dX12_put_13 : decode cX12_put 13 = .ok (.getfield 103, 3) := by decide +kernel
theorem dX12_put_16 : decode cX12_put 16 = .ok (.aload_n 0, 1) := by decide +kernel
theorem dX12_put_17 : decode cX12_put 17 = .ok (.getfield 136, 3) := by decide +kernel
theorem dX12_put_20 : decode cX12_put 20 = .ok (.iaload, 1) := by decide +kernel
theorem dX12_put_21 : decode cX12_put 21 = .ok (.iadd, 1) := by decide +kernel
theorem dX12_put_22 : decode cX12_put 22 = .ok (.iload_n 1, 1) := by decide +kernel
theorem dX12_put_23 : decode cX12_put 23 = .ok (.iastore, 1) := by decide +kernel
theorem dX12_put_24 : decode cX12_put 24 = .ok (.aload_n 0, 1) := by decide +kernel
theorem dX12_put_25 : decode cX12_put 25 = .ok (.getfield 103, 3) := by decide +kernel
theorem dX12_put_28 : decode cX12_put 28 = .ok (.aload_n 0, 1) := by decide +kernel
theorem dX12_put_29 : decode cX12_put 29 = .ok (.getfield 136, 3) := by decide +kernel
theorem dX12_put_32 : decode cX12_put 32 = .ok (.dup2, 1) := by decide +kernel
theorem dX12_put_33 : decode cX12_put 33 = .ok (.iaload, 1) := by decide +kernel
theorem dX12_put_34 : decode cX12_put 34 = .ok (.iconst 1, 1) := by decide +kernel
theorem dX12_put_35 : decode cX12_put 35 = .ok (.iadd, 1) := by decide +kernel
theorem dX12_put_36 : decode cX12_put 36 = .ok (.iastore, 1) := by decide +kernel
theorem dX12_put_37 : decode cX12_put 37 = .ok (.return_, 1) := by decide +kernel
theorem dX12_rank_0 : decode cX12_rank 0 = .ok (.iload_n 1, 1) := by decide +kernel
theorem dX12_rank_1 : decode cX12_rank 1 = .ok (.iconst (-1), 1) := by decide +kernel
theorem dX12_rank_2 : decode cX12_rank 2 = .ok (.if_icmp .ne 7, 3) := by decide +kernel
theorem dX12_rank_5 : decode cX12_rank 5 = .ok (.iconst 1, 1) := by decide +kernel
theorem dX12_rank_6 : decode cX12_rank 6 = .ok (.goto 78, 3) := by decide +kernel
theorem dX12_rank_9 : decode cX12_rank 9 = .ok (.iload_n 1, 1) := by decide +kernel
theorem dX12_rank_10 : decode cX12_rank 10 = .ok (.bipush (-2), 2) := by decide +kernel
theorem dX12_rank_12 : decode cX12_rank 12 = .ok (.if_icmp .ne 7, 3) := by decide +kernel
theorem dX12_rank_15 : decode cX12_rank 15 = .ok (.iconst 2, 1) := by decide +kernel
theorem dX12_rank_16 : decode cX12_rank 16 = .ok (.goto 68, 3) := by decide +kernel
theorem dX12_rank_19 : decode cX12_rank 19 = .ok (.iload_n 1, 1) := by decide +kernel
theorem dX12_rank_20 : decode cX12_rank 20 = .ok (.bipush (-3), 2) := by decide +kernel
theorem dX12_rank_22 : decode cX12_rank 22 = .ok (.if_icmp .ne 7, 3) := by decide +kernel
theorem dX12_rank_25 : decode cX12_rank 25 = .ok (.iconst 3, 1) := by decide +kernel
theorem dX12_rank_26 : decode cX12_rank 26 = .ok (.goto 58, 3) := by decide +kernel
theorem dX12_rank_29 : decode cX12_rank 29 = .ok (.iload_n 1, 1) := by decide +kernel
theorem dX12_rank_30 : decode cX12_rank 30 = .ok (.bipush (-4), 2) := by decide +kernel
theorem dX12_rank_32 : decode cX12_rank 32 = .ok (.if_icmp .eq 9, 3) := by decide +kernel
theorem dX12_rank_35 : decode cX12_rank 35 = .ok (.iload_n 1, 1) := by decide +kernel
theorem dX12_rank_36 : decode cX12_rank 36 = .ok (.bipush (-5), 2) := by decide +kernel
theorem dX12_rank_38 : decode cX12_rank 38 = .ok (.if_icmp .ne 7, 3) := by decide +kernel
theorem dX12_rank_41 : decode cX12_rank 41 = .ok (.iconst 4, 1) := by decide +kernel
theorem dX12_rank_42 : decode cX12_rank 42 = .ok (.goto 42, 3) := by decide +kernel
theorem dX12_rank_45 : decode cX12_rank 45 = .ok (.iload_n 1, 1) := by decide +kernel
theorem dX12_rank_46 : decode cX12_rank 46 = .ok (.bipush (-6), 2) := by decide +kernel
theorem dX12_rank_48 : decode cX12_rank 48 = .ok (.if_icmp .eq 9, 3) := by decide +kernel
theorem dX12_rank_51 : decode cX12_rank 51 = .ok (.iload_n 1, 1) := by decide +kernel
theorem dX12_rank_52 : decode cX12_rank 52 = .ok (.bipush (-7), 2) := by decide +kernel
theorem dX12_rank_54 : decode cX12_rank 54 = .ok (.if_icmp .ne 7, 3) := by decide +kernel
theorem dX12_rank_57 : decode cX12_rank 57 = .ok (.iconst 5, 1) := by decide +kernel
theorem dX12_rank_58 : decode cX12_rank 58 = .ok (.goto 26, 3) := by decide +kernel
theorem dX12_rank_61 : decode cX12_rank 61 = .ok (.iload_n 1, 1) := by decide +kernel
theorem dX12_rank_62 : decode cX12_rank 62 = .ok (.bipush (-8), 2) := by decide +kernel
theorem dX12_rank_64 : decode cX12_rank 64 = .ok (.if_icmp .ne 8, 3) := by decide +kernel
theorem dX12_rank_67 : decode cX12_rank 67 = .ok (.bipush 6, 2) := by decide +kernel
theorem dX12_rank_69 : decode cX12_rank 69 = .ok (.goto 15, 3) := by decide +kernel
theorem dX12_rank_72 : decode cX12_rank 72 = .ok (.iload_n 1, 1) := by decide +kernel
theorem dX12_rank_73 : decode cX12_rank 73 = .ok (.bipush (-9), 2) := by decide +kernel
theorem dX12_rank_75 : decode cX12_rank 75 = .ok (.if_icmp .ne 8, 3) := by decide +kernel
theorem dX12_rank_78 : decode cX12_rank 78 = .ok (.bipush 7, 2) := by decide +kernel
theorem dX12_rank_80 : decode cX12_rank 80 = .ok (.goto 4, 3) := by decide +kernel
theorem dX12_rank_83 : decode cX12_rank 83 = .ok (.iconst 0, 1) := by decide +kernel
theorem dX12_rank_84 : decode cX12_rank 84 = .ok (.ireturn, 1) := by decide +kernel
theorem dX12_settle_0 : decode cX12_settle 0 = .ok (.aload_n 0, 1) := by decide +kernel
theorem dX12_settle_1 : decode cX12_settle 1 = .ok (.getfield 127, 3) := by decide +kernel
theorem dX12_settle_4 : decode cX12_settle 4 = .ok (.ifCond .le 86, 3) := by decide +kernel
theorem dX12_settle_7 : decode cX12_settle 7 = .ok (.aload_n 0, 1) := by decide +kernel
theorem dX12_settle_8 : decode cX12_settle 8 = .ok (.aload_n 0, 1) := by decide +kernel
theorem dX12_settle_9 : decode cX12_settle 9 = .ok (.getfield 121, 3) := by decide +kernel
theorem dX12_settle_12 : decode cX12_settle 12 = .ok (.aload_n 0, 1) := by decide +kernel
theorem dX12_settle_13 : decode cX12_settle 13 = .ok (.getfield 127, 3) := by decide +kernel
theorem dX12_settle_16 : decode cX12_settle 16 = .ok (.iconst 1, 1) := by decide +kernel
theorem dX12_settle_17 : decode cX12_settle 17 = .ok (.isub, 1) := by decide +kernel
theorem dX12_settle_18 : decode cX12_settle 18 = .ok (.iaload, 1) := by decide +kernel
theorem dX12_settle_19 : decode cX12_settle 19 = .ok (.invokevirtual 297, 3) := by decide +kernel
theorem dX12_settle_22 : decode cX12_settle 22 = .ok (.iload_n 1, 1) := by decide +kernel
theorem dX12_settle_23 : decode cX12_settle 23 = .ok (.if_icmp .lt 67, 3) := by decide +kernel
theorem dX12_settle_26 : decode cX12_settle 26 = .ok (.aload_n 0, 1) := by decide +kernel
theorem dX12_settle_27 : decode cX12_settle 27 = .ok (.dup, 1) := by decide +kernel
theorem dX12_settle_28 : decode cX12_settle 28 = .ok (.getfield 127, 3) := by decide +kernel
theorem dX12_settle_31 : decode cX12_settle 31 = .ok (.iconst 1, 1) := by decide +kernel
theorem dX12_settle_32 : decode cX12_settle 32 = .ok (.isub, 1) := by decide +kernel
theorem dX12_settle_33 : decode cX12_settle 33 = .ok (.putfield 127, 3) := by decide +kernel
theorem dX12_settle_36 : decode cX12_settle 36 = .ok (.aload_n 0, 1) := by decide +kernel
theorem dX12_settle_37 : decode cX12_settle 37 = .ok (.aload_n 0, 1) := by decide +kernel
theorem dX12_settle_38 : decode cX12_settle 38 = .ok (.getfield 121, 3) := by decide +kernel
theorem dX12_settle_41 : decode cX12_settle 41 = .ok (.aload_n 0, 1) := by decide +kernel
theorem dX12_settle_42 : decode cX12_settle 42 = .ok (.getfield 127, 3) := by decide +kernel
theorem dX12_settle_45 : decode cX12_settle 45 = .ok (.iaload, 1) := by decide +kernel
theorem dX12_settle_46 : decode cX12_settle 46 = .ok (.invokevirtual 300, 3) := by decide +kernel
theorem dX12_settle_49 : decode cX12_settle 49 = .ok (.aload_n 0, 1) := by decide +kernel
theorem dX12_settle_50 : decode cX12_settle 50 = .ok (.getfield 121, 3) := by decide +kernel
theorem dX12_settle_53 : decode cX12_settle 53 = .ok (.aload_n 0, 1) := by decide +kernel
theorem dX12_settle_54 : decode cX12_settle 54 = .ok (.getfield 127, 3) := by decide +kernel
theorem dX12_settle_57 : decode cX12_settle 57 = .ok (.iaload, 1) := by decide +kernel
theorem dX12_settle_58 : decode cX12_settle 58 = .ok (.bipush (-3), 2) := by decide +kernel
theorem dX12_settle_60 : decode cX12_settle 60 = .ok (.if_icmp .eq 17, 3) := by decide +kernel
theorem dX12_settle_63 : decode cX12_settle 63 = .ok (.aload_n 0, 1) := by decide +kernel
theorem dX12_settle_64 : decode cX12_settle 64 = .ok (.getfield 121, 3) := by decide +kernel
theorem dX12_settle_67 : decode cX12_settle 67 = .ok (.aload_n 0, 1) := by decide +kernel
theorem dX12_settle_68 : decode cX12_settle 68 = .ok (.getfield 127, 3) := by decide +kernel
theorem dX12_settle_71 : decode cX12_settle 71 = .ok (.iaload, 1) := by decide +kernel
theorem dX12_settle_72 : decode cX12_settle 72 = .ok (.bipush (-9), 2) := by decide +kernel
theorem dX12_settle_74 : decode cX12_settle 74 = .ok (.if_icmp .ne (-74), 3) := by decide +kernel
theorem dX12_settle_77 : decode cX12_settle 77 = .ok (.aload_n 0, 1) := by decide +kernel
theorem dX12_settle_78 : decode cX12_settle 78 = .ok (.dup, 1) := by decide +kernel
theorem dX12_settle_79 : decode cX12_settle 79 = .ok (.getfield 133, 3) := by decide +kernel
theorem dX12_settle_82 : decode cX12_settle 82 = .ok (.iconst 1, 1) := by decide +kernel
theorem dX12_settle_83 : decode cX12_settle 83 = .ok (.isub, 1) := by decide +kernel
theorem dX12_settle_84 : decode cX12_settle 84 = .ok (.putfield 133, 3) := by decide +kernel
theorem dX12_settle_87 : decode cX12_settle 87 = .ok (.goto (-87), 3) := by decide +kernel
theorem dX12_settle_90 : decode cX12_settle 90 = .ok (.return_, 1) := by decide +kernel
theorem dX12_hold_0 : decode cX12_hold 0 = .ok (.aload_n 0, 1) := by decide +kernel
theorem dX12_hold_1 : decode cX12_hold 1 = .ok (.getfield 121, 3) := by decide +kernel
theorem dX12_hold_4 : decode cX12_hold 4 = .ok (.aload_n 0, 1) := by decide +kernel
theorem dX12_hold_5 : decode cX12_hold 5 = .ok (.getfield 127, 3) := by decide +kernel
theorem dX12_hold_8 : decode cX12_hold 8 = .ok (.iload_n 1, 1) := by decide +kernel
theorem dX12_hold_9 : decode cX12_hold 9 = .ok (.iastore, 1) := by decide +kernel
theorem dX12_hold_10 : decode cX12_hold 10 = .ok (.aload_n 0, 1) := by decide +kernel
theorem dX12_hold_11 : decode cX12_hold 11 = .ok (.dup, 1) := by decide +kernel
theorem dX12_hold_12 : decode cX12_hold 12 = .ok (.getfield 127, 3) := by decide +kernel
theorem dX12_hold_15 : decode cX12_hold 15 = .ok (.iconst 1, 1) := by decide +kernel
theorem dX12_hold_16 : decode cX12_hold 16 = .ok (.iadd, 1) := by decide +kernel
theorem dX12_hold_17 : decode cX12_hold 17 = .ok (.putfield 127, 3) := by decide +kernel
theorem dX12_hold_20 : decode cX12_hold 20 = .ok (.iload_n 1, 1) := by decide +kernel
theorem dX12_hold_21 : decode cX12_hold 21 = .ok (.bipush (-3), 2) := by decide +kernel
theorem dX12_hold_23 : decode cX12_hold 23 = .ok (.if_icmp .eq 15, 3) := by decide +kernel
theorem dX12_hold_26 : decode cX12_hold 26 = .ok (.iload_n 1, 1) := by decide +kernel
theorem dX12_hold_27 : decode cX12_hold 27 = .ok (.bipush (-9), 2) := by decide +kernel
theorem dX12_hold_29 : decode cX12_hold 29 = .ok (.if_icmp .eq 9, 3) := by decide +kernel
theorem dX12_hold_32 : decode cX12_hold 32 = .ok (.iload_n 1, 1) := by decide +kernel
theorem dX12_hold_33 : decode cX12_hold 33 = .ok (.bipush (-10), 2) := by decide +kernel
theorem dX12_hold_35 : decode cX12_hold 35 = .ok (.if_icmp .ne 13, 3) := by decide +kernel
theorem dX12_hold_38 : decode cX12_hold 38 = .ok (.aload_n 0, 1) := by decide +kernel
theorem dX12_hold_39 : decode cX12_hold 39 = .ok (.dup, 1) := by decide +kernel
theorem dX12_hold_40 : decode cX12_hold 40 = .ok (.getfield 133, 3) := by decide +kernel
theorem dX12_hold_43 : decode cX12_hold 43 = .ok (.iconst 1, 1) := by decide +kernel
theorem dX12_hold_44 : decode cX12_hold 44 = .ok (.iadd, 1) := by decide +kernel
theorem dX12_hold_45 : decode cX12_hold 45 = .ok (.putfield 133, 3) := by decide +kernel
theorem dX12_hold_48 : decode cX12_hold 48 = .ok (.return_, 1) := by decide +kernel
theorem dX12_ahead_0 : decode cX12_ahead 0 = .ok (.aload_n 0, 1) := by decide +kernel
theorem dX12_ahead_1 : decode cX12_ahead 1 = .ok (.getfield 112, 3) := by decide +kernel
theorem dX12_ahead_4 : decode cX12_ahead 4 = .ok (.iconst 1, 1) := by decide +kernel
theorem dX12_ahead_5 : decode cX12_ahead 5 = .ok (.if_icmp .eq 11, 3) := by decide +kernel
theorem dX12_ahead_8 : decode cX12_ahead 8 = .ok (.aload_n 0, 1) := by decide +kernel
theorem dX12_ahead_9 : decode cX12_ahead 9 = .ok (.getfield 112, 3) := by decide +kernel
theorem dX12_ahead_12 : decode cX12_ahead 12 = .ok (.iconst 2, 1) := by decide +kernel
theorem dX12_ahead_13 : decode cX12_ahead 13 = .ok (.if_icmp .ne 5, 3) := by decide +kernel
theorem dX12_ahead_16 : decode cX12_ahead 16 = .ok (.iconst 1, 1) := by decide +kernel
theorem dX12_ahead_17 : decode cX12_ahead 17 = .ok (.ireturn, 1) := by decide +kernel
theorem dX12_ahead_18 : decode cX12_ahead 18 = .ok (.aload_n 0, 1) := by decide +kernel
theorem dX12_ahead_19 : decode cX12_ahead 19 = .ok (.getfield 133, 3) := by decide +kernel
theorem dX12_ahead_22 : decode cX12_ahead 22 = .ok (.iconst 5, 1) := by decide +kernel
theorem dX12_ahead_23 : decode cX12_ahead 23 = .ok (.if_icmp .ne 5, 3) := by decide +kernel
theorem dX12_ahead_26 : decode cX12_ahead 26 = .ok (.iconst 0, 1) := by decide +kernel
theorem dX12_ahead_27 : decode cX12_ahead 27 = .ok (.ireturn, 1) := by decide +kernel
theorem dX12_ahead_28 : decode cX12_ahead 28 = .ok (.aload_n 0, 1) := by decide +kernel
theorem dX12_ahead_29 : decode cX12_ahead 29 = .ok (.iconst 4, 1) := by decide +kernel
theorem dX12_ahead_30 : decode cX12_ahead 30 = .ok (.invokevirtual 304, 3) := by decide +kernel
theorem dX12_ahead_33 : decode cX12_ahead 33 = .ok (.ifCond .eq 5, 3) := by decide +kernel
theorem dX12_ahead_36 : decode cX12_ahead 36 = .ok (.iload_n 1, 1) := by decide +kernel
theorem dX12_ahead_37 : decode cX12_ahead 37 = .ok (.ireturn, 1) := by decide +kernel
theorem dX12_ahead_38 : decode cX12_ahead 38 = .ok (.aload_n 0, 1) := by decide +kernel
theorem dX12_ahead_39 : decode cX12_ahead 39 = .ok (.bipush 40, 2) := by decide +kernel
theorem dX12_ahead_41 : decode cX12_ahead 41 = .ok (.invokevirtual 307, 3) := by decide +kernel
theorem dX12_ahead_44 : decode cX12_ahead 44 = .ok (.ifCond .ne 12, 3) := by decide +kernel
theorem dX12_ahead_47 : decode cX12_ahead 47 = .ok (.aload_n 0, 1) := by decide +kernel
theorem dX12_ahead_48 : decode cX12_ahead 48 = .ok (.bipush 45, 2) := by decide +kernel
theorem dX12_ahead_50 : decode cX12_ahead 50 = .ok (.invokevirtual 307, 3) := by decide +kernel
theorem dX12_ahead_53 : decode cX12_ahead 53 = .ok (.ifCond .eq 7, 3) := by decide +kernel
theorem dX12_ahead_56 : decode cX12_ahead 56 = .ok (.iconst 1, 1) := by decide +kernel
theorem dX12_ahead_57 : decode cX12_ahead 57 = .ok (.goto 4, 3) := by decide +kernel
theorem dX12_ahead_60 : decode cX12_ahead 60 = .ok (.iconst 0, 1) := by decide +kernel
theorem dX12_ahead_61 : decode cX12_ahead 61 = .ok (.ireturn, 1) := by decide +kernel
theorem dX12_signOf_0 : decode cX12_signOf 0 = .ok (.aload_n 0, 1) := by decide +kernel
theorem dX12_signOf_1 : decode cX12_signOf 1 = .ok (.iconst 2, 1) := by decide +kernel
theorem dX12_signOf_2 : decode cX12_signOf 2 = .ok (.invokevirtual 304, 3) := by decide +kernel
theorem dX12_signOf_5 : decode cX12_signOf 5 = .ok (.ifCond .eq 7, 3) := by decide +kernel
theorem dX12_signOf_8 : decode cX12_signOf 8 = .ok (.iconst (-1), 1) := by decide +kernel
theorem dX12_signOf_9 : decode cX12_signOf 9 = .ok (.goto 87, 3) := by decide +kernel
theorem dX12_signOf_12 : decode cX12_signOf 12 = .ok (.aload_n 0, 1) := by decide +kernel
theorem dX12_signOf_13 : decode cX12_signOf 13 = .ok (.iconst 3, 1) := by decide +kernel
theorem dX12_signOf_14 : decode cX12_signOf 14 = .ok (.invokevirtual 304, 3) := by decide +kernel
theorem dX12_signOf_17 : decode cX12_signOf 17 = .ok (.ifCond .eq 8, 3) := by decide +kernel
theorem dX12_signOf_20 : decode cX12_signOf 20 = .ok (.bipush (-2), 2) := by decide +kernel
theorem dX12_signOf_22 : decode cX12_signOf 22 = .ok (.goto 74, 3) := by decide +kernel
theorem dX12_signOf_25 : decode cX12_signOf 25 = .ok (.aload_n 0, 1) := by decide +kernel
theorem dX12_signOf_26 : decode cX12_signOf 26 = .ok (.bipush 60, 2) := by decide +kernel
theorem dX12_signOf_28 : decode cX12_signOf 28 = .ok (.invokevirtual 307, 3) := by decide +kernel
theorem dX12_signOf_31 : decode cX12_signOf 31 = .ok (.ifCond .eq 8, 3) := by decide +kernel
theorem dX12_signOf_34 : decode cX12_signOf 34 = .ok (.bipush (-4), 2) := by decide +kernel
theorem dX12_signOf_36 : decode cX12_signOf 36 = .ok (.goto 60, 3) := by decide +kernel
theorem dX12_signOf_39 : decode cX12_signOf 39 = .ok (.aload_n 0, 1) := by decide +kernel
theorem dX12_signOf_40 : decode cX12_signOf 40 = .ok (.bipush 61, 2) := by decide +kernel
theorem dX12_signOf_42 : decode cX12_signOf 42 = .ok (.invokevirtual 307, 3) := by decide +kernel
theorem dX12_signOf_45 : decode cX12_signOf 45 = .ok (.ifCond .eq 8, 3) := by decide +kernel
theorem dX12_signOf_48 : decode cX12_signOf 48 = .ok (.bipush (-5), 2) := by decide +kernel
theorem dX12_signOf_50 : decode cX12_signOf 50 = .ok (.goto 46, 3) := by decide +kernel
theorem dX12_signOf_53 : decode cX12_signOf 53 = .ok (.aload_n 0, 1) := by decide +kernel
theorem dX12_signOf_54 : decode cX12_signOf 54 = .ok (.bipush 43, 2) := by decide +kernel
theorem dX12_signOf_56 : decode cX12_signOf 56 = .ok (.invokevirtual 307, 3) := by decide +kernel
theorem dX12_signOf_59 : decode cX12_signOf 59 = .ok (.ifCond .eq 8, 3) := by decide +kernel
theorem dX12_signOf_62 : decode cX12_signOf 62 = .ok (.bipush (-6), 2) := by decide +kernel
theorem dX12_signOf_64 : decode cX12_signOf 64 = .ok (.goto 32, 3) := by decide +kernel
theorem dX12_signOf_67 : decode cX12_signOf 67 = .ok (.aload_n 0, 1) := by decide +kernel
theorem dX12_signOf_68 : decode cX12_signOf 68 = .ok (.bipush 45, 2) := by decide +kernel
theorem dX12_signOf_70 : decode cX12_signOf 70 = .ok (.invokevirtual 307, 3) := by decide +kernel
theorem dX12_signOf_73 : decode cX12_signOf 73 = .ok (.ifCond .eq 8, 3) := by decide +kernel
theorem dX12_signOf_76 : decode cX12_signOf 76 = .ok (.bipush (-7), 2) := by decide +kernel
theorem dX12_signOf_78 : decode cX12_signOf 78 = .ok (.goto 18, 3) := by decide +kernel
theorem dX12_signOf_81 : decode cX12_signOf 81 = .ok (.aload_n 0, 1) := by decide +kernel
theorem dX12_signOf_82 : decode cX12_signOf 82 = .ok (.bipush 42, 2) := by decide +kernel
theorem dX12_signOf_84 : decode cX12_signOf 84 = .ok (.invokevirtual 307, 3) := by decide +kernel
theorem dX12_signOf_87 : decode cX12_signOf 87 = .ok (.ifCond .eq 8, 3) := by decide +kernel
theorem dX12_signOf_90 : decode cX12_signOf 90 = .ok (.bipush (-8), 2) := by decide +kernel
theorem dX12_signOf_92 : decode cX12_signOf 92 = .ok (.goto 4, 3) := by decide +kernel
theorem dX12_signOf_95 : decode cX12_signOf 95 = .ok (.iconst 0, 1) := by decide +kernel
theorem dX12_signOf_96 : decode cX12_signOf 96 = .ok (.ireturn, 1) := by decide +kernel
theorem dX12_part_0 : decode cX12_part 0 = .ok (.aload_n 0, 1) := by decide +kernel
theorem dX12_part_1 : decode cX12_part 1 = .ok (.iconst 0, 1) := by decide +kernel
theorem dX12_part_2 : decode cX12_part 2 = .ok (.putfield 127, 3) := by decide +kernel
theorem dX12_part_5 : decode cX12_part 5 = .ok (.aload_n 0, 1) := by decide +kernel
theorem dX12_part_6 : decode cX12_part 6 = .ok (.iconst 0, 1) := by decide +kernel
theorem dX12_part_7 : decode cX12_part 7 = .ok (.putfield 130, 3) := by decide +kernel
theorem dX12_part_10 : decode cX12_part 10 = .ok (.aload_n 0, 1) := by decide +kernel
theorem dX12_part_11 : decode cX12_part 11 = .ok (.iconst 0, 1) := by decide +kernel
theorem dX12_part_12 : decode cX12_part 12 = .ok (.putfield 133, 3) := by decide +kernel
theorem dX12_part_15 : decode cX12_part 15 = .ok (.aload_n 0, 1) := by decide +kernel
theorem dX12_part_16 : decode cX12_part 16 = .ok (.getfield 103, 3) := by decide +kernel
theorem dX12_part_19 : decode cX12_part 19 = .ok (.aload_n 0, 1) := by decide +kernel
theorem dX12_part_20 : decode cX12_part 20 = .ok (.getfield 136, 3) := by decide +kernel
theorem dX12_part_23 : decode cX12_part 23 = .ok (.iconst 0, 1) := by decide +kernel
theorem dX12_part_24 : decode cX12_part 24 = .ok (.iastore, 1) := by decide +kernel
theorem dX12_part_25 : decode cX12_part 25 = .ok (.aload_n 0, 1) := by decide +kernel
theorem dX12_part_26 : decode cX12_part 26 = .ok (.getfield 124, 3) := by decide +kernel
theorem dX12_part_29 : decode cX12_part 29 = .ok (.iconst 0, 1) := by decide +kernel
theorem dX12_part_30 : decode cX12_part 30 = .ok (.iconst 0, 1) := by decide +kernel
theorem dX12_part_31 : decode cX12_part 31 = .ok (.bastore, 1) := by decide +kernel
theorem dX12_part_32 : decode cX12_part 32 = .ok (.iconst 1, 1) := by decide +kernel
theorem dX12_part_33 : decode cX12_part 33 = .ok (.istore_n 1, 1) := by decide +kernel
theorem dX12_part_34 : decode cX12_part 34 = .ok (.iconst 1, 1) := by decide +kernel
theorem dX12_part_35 : decode cX12_part 35 = .ok (.istore_n 2, 1) := by decide +kernel
theorem dX12_part_36 : decode cX12_part 36 = .ok (.iload_n 1, 1) := by decide +kernel
theorem dX12_part_37 : decode cX12_part 37 = .ok (.ifCond .eq 132, 3) := by decide +kernel
theorem dX12_part_40 : decode cX12_part 40 = .ok (.aload_n 0, 1) := by decide +kernel
theorem dX12_part_41 : decode cX12_part 41 = .ok (.iload_n 2, 1) := by decide +kernel
theorem dX12_part_42 : decode cX12_part 42 = .ok (.invokevirtual 310, 3) := by decide +kernel
theorem dX12_part_45 : decode cX12_part 45 = .ok (.ifCond .ne 5, 3) := by decide +kernel
theorem dX12_part_48 : decode cX12_part 48 = .ok (.iconst 0, 1) := by decide +kernel
theorem dX12_part_49 : decode cX12_part 49 = .ok (.ireturn, 1) := by decide +kernel
theorem dX12_part_50 : decode cX12_part 50 = .ok (.aload_n 0, 1) := by decide +kernel
theorem dX12_part_51 : decode cX12_part 51 = .ok (.iconst 4, 1) := by decide +kernel
theorem dX12_part_52 : decode cX12_part 52 = .ok (.invokevirtual 304, 3) := by decide +kernel
theorem dX12_part_55 : decode cX12_part 55 = .ok (.ifCond .eq 12, 3) := by decide +kernel
theorem dX12_part_58 : decode cX12_part 58 = .ok (.aload_n 0, 1) := by decide +kernel
theorem dX12_part_59 : decode cX12_part 59 = .ok (.bipush (-3), 2) := by decide +kernel
theorem dX12_part_61 : decode cX12_part 61 = .ok (.invokevirtual 314, 3) := by decide +kernel
theorem dX12_part_64 : decode cX12_part 64 = .ok (.goto 98, 3) := by decide +kernel
theorem dX12_part_67 : decode cX12_part 67 = .ok (.aload_n 0, 1) := by decide +kernel
theorem dX12_part_68 : decode cX12_part 68 = .ok (.bipush 45, 2) := by decide +kernel
theorem dX12_part_70 : decode cX12_part 70 = .ok (.invokevirtual 307, 3) := by decide +kernel
theorem dX12_part_73 : decode cX12_part 73 = .ok (.ifCond .eq 14, 3) := by decide +kernel
theorem dX12_part_76 : decode cX12_part 76 = .ok (.aload_n 0, 1) := by decide +kernel
theorem dX12_part_77 : decode cX12_part 77 = .ok (.bipush (-9), 2) := by decide +kernel
theorem dX12_part_79 : decode cX12_part 79 = .ok (.invokevirtual 314, 3) := by decide +kernel
theorem dX12_part_82 : decode cX12_part 82 = .ok (.iconst 0, 1) := by decide +kernel
theorem dX12_part_83 : decode cX12_part 83 = .ok (.istore_n 2, 1) := by decide +kernel
theorem dX12_part_84 : decode cX12_part 84 = .ok (.goto 78, 3) := by decide +kernel
theorem dX12_part_87 : decode cX12_part 87 = .ok (.aload_n 0, 1) := by decide +kernel
theorem dX12_part_88 : decode cX12_part 88 = .ok (.bipush 40, 2) := by decide +kernel
theorem dX12_part_90 : decode cX12_part 90 = .ok (.invokevirtual 307, 3) := by decide +kernel
theorem dX12_part_93 : decode cX12_part 93 = .ok (.ifCond .eq 34, 3) := by decide +kernel
theorem dX12_part_96 : decode cX12_part 96 = .ok (.aload_n 0, 1) := by decide +kernel
theorem dX12_part_97 : decode cX12_part 97 = .ok (.bipush (-10), 2) := by decide +kernel
theorem dX12_part_99 : decode cX12_part 99 = .ok (.invokevirtual 314, 3) := by decide +kernel
theorem dX12_part_102 : decode cX12_part 102 = .ok (.aload_n 0, 1) := by decide +kernel
theorem dX12_part_103 : decode cX12_part 103 = .ok (.dup, 1) := by decide +kernel
theorem dX12_part_104 : decode cX12_part 104 = .ok (.getfield 130, 3) := by decide +kernel
theorem dX12_part_107 : decode cX12_part 107 = .ok (.iconst 1, 1) := by decide +kernel
theorem dX12_part_108 : decode cX12_part 108 = .ok (.iadd, 1) := by decide +kernel
theorem dX12_part_109 : decode cX12_part 109 = .ok (.putfield 130, 3) := by decide +kernel
theorem dX12_part_112 : decode cX12_part 112 = .ok (.aload_n 0, 1) := by decide +kernel
theorem dX12_part_113 : decode cX12_part 113 = .ok (.getfield 124, 3) := by decide +kernel
theorem dX12_part_116 : decode cX12_part 116 = .ok (.aload_n 0, 1) := by decide +kernel
theorem dX12_part_117 : decode cX12_part 117 = .ok (.getfield 130, 3) := by decide +kernel
theorem dX12_part_120 : decode cX12_part 120 = .ok (.iconst 0, 1) := by decide +kernel
theorem dX12_part_121 : decode cX12_part 121 = .ok (.bastore, 1) := by decide +kernel
theorem dX12_part_122 : decode cX12_part 122 = .ok (.iconst 1, 1) := by decide +kernel
theorem dX12_part_123 : decode cX12_part 123 = .ok (.istore_n 2, 1) := by decide +kernel
theorem dX12_part_124 : decode cX12_part 124 = .ok (.goto 38, 3) := by decide +kernel
theorem dX12_part_127 : decode cX12_part 127 = .ok (.aload_n 0, 1) := by decide +kernel
theorem dX12_part_128 : decode cX12_part 128 = .ok (.aload_n 0, 1) := by decide +kernel
theorem dX12_part_129 : decode cX12_part 129 = .ok (.getfield 112, 3) := by decide +kernel
theorem dX12_part_132 : decode cX12_part 132 = .ok (.iconst 1, 1) := by decide +kernel
theorem dX12_part_133 : decode cX12_part 133 = .ok (.if_icmp .ne 10, 3) := by decide +kernel
theorem dX12_part_136 : decode cX12_part 136 = .ok (.aload_n 0, 1) := by decide +kernel
theorem dX12_part_137 : decode cX12_part 137 = .ok (.getfield 115, 3) := by decide +kernel
theorem dX12_part_140 : decode cX12_part 140 = .ok (.goto 11, 3) := by decide +kernel
theorem dX12_part_143 : decode cX12_part 143 = .ok (.sipush 10000, 3) := by decide +kernel
theorem dX12_part_146 : decode cX12_part 146 = .ok (.aload_n 0, 1) := by decide +kernel
theorem dX12_part_147 : decode cX12_part 147 = .ok (.getfield 115, 3) := by decide +kernel
theorem dX12_part_150 : decode cX12_part 150 = .ok (.iadd, 1) := by decide +kernel
theorem dX12_part_151 : decode cX12_part 151 = .ok (.invokevirtual 300, 3) := by decide +kernel
theorem dX12_part_154 : decode cX12_part 154 = .ok (.aload_n 0, 1) := by decide +kernel
theorem dX12_part_155 : decode cX12_part 155 = .ok (.bipush 7, 2) := by decide +kernel
theorem dX12_part_157 : decode cX12_part 157 = .ok (.invokevirtual 317, 3) := by decide +kernel
theorem dX12_part_160 : decode cX12_part 160 = .ok (.iconst 0, 1) := by decide +kernel
theorem dX12_part_161 : decode cX12_part 161 = .ok (.istore_n 1, 1) := by decide +kernel
theorem dX12_part_162 : decode cX12_part 162 = .ok (.aload_n 0, 1) := by decide +kernel
theorem dX12_part_163 : decode cX12_part 163 = .ok (.invokevirtual 320, 3) := by decide +kernel
theorem dX12_part_166 : decode cX12_part 166 = .ok (.goto (-130), 3) := by decide +kernel
theorem dX12_part_169 : decode cX12_part 169 = .ok (.aload_n 0, 1) := by decide +kernel
theorem dX12_part_170 : decode cX12_part 170 = .ok (.bipush 59, 2) := by decide +kernel
theorem dX12_part_172 : decode cX12_part 172 = .ok (.invokevirtual 307, 3) := by decide +kernel
theorem dX12_part_175 : decode cX12_part 175 = .ok (.ifCond .eq 21, 3) := by decide +kernel
theorem dX12_part_178 : decode cX12_part 178 = .ok (.aload_n 0, 1) := by decide +kernel
theorem dX12_part_179 : decode cX12_part 179 = .ok (.iconst 1, 1) := by decide +kernel
theorem dX12_part_180 : decode cX12_part 180 = .ok (.invokevirtual 317, 3) := by decide +kernel
theorem dX12_part_183 : decode cX12_part 183 = .ok (.aload_n 0, 1) := by decide +kernel
theorem dX12_part_184 : decode cX12_part 184 = .ok (.getfield 130, 3) := by decide +kernel
theorem dX12_part_187 : decode cX12_part 187 = .ok (.ifCond .ne 7, 3) := by decide +kernel
theorem dX12_part_190 : decode cX12_part 190 = .ok (.iconst 1, 1) := by decide +kernel
theorem dX12_part_191 : decode cX12_part 191 = .ok (.goto 4, 3) := by decide +kernel
theorem dX12_part_194 : decode cX12_part 194 = .ok (.iconst 0, 1) := by decide +kernel
theorem dX12_part_195 : decode cX12_part 195 = .ok (.ireturn, 1) := by decide +kernel
theorem dX12_part_196 : decode cX12_part 196 = .ok (.aload_n 0, 1) := by decide +kernel
theorem dX12_part_197 : decode cX12_part 197 = .ok (.bipush 41, 2) := by decide +kernel
theorem dX12_part_199 : decode cX12_part 199 = .ok (.invokevirtual 307, 3) := by decide +kernel
theorem dX12_part_202 : decode cX12_part 202 = .ok (.ifCond .eq 60, 3) := by decide +kernel
theorem dX12_part_205 : decode cX12_part 205 = .ok (.aload_n 0, 1) := by decide +kernel
theorem dX12_part_206 : decode cX12_part 206 = .ok (.getfield 130, 3) := by decide +kernel
theorem dX12_part_209 : decode cX12_part 209 = .ok (.ifCond .ne 5, 3) := by decide +kernel
theorem dX12_part_212 : decode cX12_part 212 = .ok (.iconst 0, 1) := by decide +kernel
theorem dX12_part_213 : decode cX12_part 213 = .ok (.ireturn, 1) := by decide +kernel
theorem dX12_part_214 : decode cX12_part 214 = .ok (.aload_n 0, 1) := by decide +kernel
theorem dX12_part_215 : decode cX12_part 215 = .ok (.iconst 1, 1) := by decide +kernel
theorem dX12_part_216 : decode cX12_part 216 = .ok (.invokevirtual 317, 3) := by decide +kernel
theorem dX12_part_219 : decode cX12_part 219 = .ok (.aload_n 0, 1) := by decide +kernel
theorem dX12_part_220 : decode cX12_part 220 = .ok (.dup, 1) := by decide +kernel
theorem dX12_part_221 : decode cX12_part 221 = .ok (.getfield 127, 3) := by decide +kernel
theorem dX12_part_224 : decode cX12_part 224 = .ok (.iconst 1, 1) := by decide +kernel
theorem dX12_part_225 : decode cX12_part 225 = .ok (.isub, 1) := by decide +kernel
theorem dX12_part_226 : decode cX12_part 226 = .ok (.putfield 127, 3) := by decide +kernel
theorem dX12_part_229 : decode cX12_part 229 = .ok (.aload_n 0, 1) := by decide +kernel
theorem dX12_part_230 : decode cX12_part 230 = .ok (.dup, 1) := by decide +kernel
theorem dX12_part_231 : decode cX12_part 231 = .ok (.getfield 133, 3) := by decide +kernel
theorem dX12_part_234 : decode cX12_part 234 = .ok (.iconst 1, 1) := by decide +kernel
theorem dX12_part_235 : decode cX12_part 235 = .ok (.isub, 1) := by decide +kernel
theorem dX12_part_236 : decode cX12_part 236 = .ok (.putfield 133, 3) := by decide +kernel
theorem dX12_part_239 : decode cX12_part 239 = .ok (.aload_n 0, 1) := by decide +kernel
theorem dX12_part_240 : decode cX12_part 240 = .ok (.dup, 1) := by decide +kernel
theorem dX12_part_241 : decode cX12_part 241 = .ok (.getfield 130, 3) := by decide +kernel
theorem dX12_part_244 : decode cX12_part 244 = .ok (.iconst 1, 1) := by decide +kernel
theorem dX12_part_245 : decode cX12_part 245 = .ok (.isub, 1) := by decide +kernel
theorem dX12_part_246 : decode cX12_part 246 = .ok (.putfield 130, 3) := by decide +kernel
theorem dX12_part_249 : decode cX12_part 249 = .ok (.aload_n 0, 1) := by decide +kernel
theorem dX12_part_250 : decode cX12_part 250 = .ok (.bipush 7, 2) := by decide +kernel
theorem dX12_part_252 : decode cX12_part 252 = .ok (.invokevirtual 317, 3) := by decide +kernel
theorem dX12_part_255 : decode cX12_part 255 = .ok (.aload_n 0, 1) := by decide +kernel
theorem dX12_part_256 : decode cX12_part 256 = .ok (.invokevirtual 320, 3) := by decide +kernel
theorem dX12_part_259 : decode cX12_part 259 = .ok (.goto (-223), 3) := by decide +kernel
theorem dX12_part_262 : decode cX12_part 262 = .ok (.aload_n 0, 1) := by decide +kernel
theorem dX12_part_263 : decode cX12_part 263 = .ok (.invokevirtual 323, 3) := by decide +kernel
theorem dX12_part_266 : decode cX12_part 266 = .ok (.istore_n 3, 1) := by decide +kernel
theorem dX12_part_267 : decode cX12_part 267 = .ok (.iload_n 3, 1) := by decide +kernel
theorem dX12_part_268 : decode cX12_part 268 = .ok (.ifCond .eq 24, 3) := by decide +kernel
theorem dX12_part_271 : decode cX12_part 271 = .ok (.aload_n 0, 1) := by decide +kernel
theorem dX12_part_272 : decode cX12_part 272 = .ok (.iload_n 3, 1) := by decide +kernel
theorem dX12_part_273 : decode cX12_part 273 = .ok (.invokevirtual 297, 3) := by decide +kernel
theorem dX12_part_276 : decode cX12_part 276 = .ok (.iconst 4, 1) := by decide +kernel
theorem dX12_part_277 : decode cX12_part 277 = .ok (.if_icmp .ne 17, 3) := by decide +kernel
theorem dX12_part_280 : decode cX12_part 280 = .ok (.aload_n 0, 1) := by decide +kernel
theorem dX12_part_281 : decode cX12_part 281 = .ok (.getfield 124, 3) := by decide +kernel
theorem dX12_part_284 : decode cX12_part 284 = .ok (.aload_n 0, 1) := by decide +kernel
theorem dX12_part_285 : decode cX12_part 285 = .ok (.getfield 130, 3) := by decide +kernel
theorem dX12_part_288 : decode cX12_part 288 = .ok (.baload, 1) := by decide +kernel
theorem dX12_part_289 : decode cX12_part 289 = .ok (.ifCond .eq 5, 3) := by decide +kernel
theorem dX12_part_292 : decode cX12_part 292 = .ok (.iconst 0, 1) := by decide +kernel
theorem dX12_part_293 : decode cX12_part 293 = .ok (.ireturn, 1) := by decide +kernel
theorem dX12_part_294 : decode cX12_part 294 = .ok (.aload_n 0, 1) := by decide +kernel
theorem dX12_part_295 : decode cX12_part 295 = .ok (.getfield 124, 3) := by decide +kernel
theorem dX12_part_298 : decode cX12_part 298 = .ok (.aload_n 0, 1) := by decide +kernel
theorem dX12_part_299 : decode cX12_part 299 = .ok (.getfield 130, 3) := by decide +kernel
theorem dX12_part_302 : decode cX12_part 302 = .ok (.aload_n 0, 1) := by decide +kernel
theorem dX12_part_303 : decode cX12_part 303 = .ok (.iload_n 3, 1) := by decide +kernel
theorem dX12_part_304 : decode cX12_part 304 = .ok (.invokevirtual 297, 3) := by decide +kernel
theorem dX12_part_307 : decode cX12_part 307 = .ok (.iconst 4, 1) := by decide +kernel
theorem dX12_part_308 : decode cX12_part 308 = .ok (.if_icmp .eq 24, 3) := by decide +kernel
theorem dX12_part_311 : decode cX12_part 311 = .ok (.aload_n 0, 1) := by decide +kernel
theorem dX12_part_312 : decode cX12_part 312 = .ok (.iload_n 3, 1) := by decide +kernel
theorem dX12_part_313 : decode cX12_part 313 = .ok (.invokevirtual 297, 3) := by decide +kernel
theorem dX12_part_316 : decode cX12_part 316 = .ok (.iconst 2, 1) := by decide +kernel
theorem dX12_part_317 : decode cX12_part 317 = .ok (.if_icmp .le 19, 3) := by decide +kernel
theorem dX12_part_320 : decode cX12_part 320 = .ok (.aload_n 0, 1) := by decide +kernel
theorem dX12_part_321 : decode cX12_part 321 = .ok (.getfield 124, 3) := by decide +kernel
theorem dX12_part_324 : decode cX12_part 324 = .ok (.aload_n 0, 1) := by decide +kernel
theorem dX12_part_325 : decode cX12_part 325 = .ok (.getfield 130, 3) := by decide +kernel
theorem dX12_part_328 : decode cX12_part 328 = .ok (.baload, 1) := by decide +kernel
theorem dX12_part_329 : decode cX12_part 329 = .ok (.ifCond .eq 7, 3) := by decide +kernel
theorem dX12_part_332 : decode cX12_part 332 = .ok (.iconst 1, 1) := by decide +kernel
theorem dX12_part_333 : decode cX12_part 333 = .ok (.goto 4, 3) := by decide +kernel
theorem dX12_part_336 : decode cX12_part 336 = .ok (.iconst 0, 1) := by decide +kernel
theorem dX12_part_337 : decode cX12_part 337 = .ok (.bastore, 1) := by decide +kernel
theorem dX12_part_338 : decode cX12_part 338 = .ok (.aload_n 0, 1) := by decide +kernel
theorem dX12_part_339 : decode cX12_part 339 = .ok (.aload_n 0, 1) := by decide +kernel
theorem dX12_part_340 : decode cX12_part 340 = .ok (.iload_n 3, 1) := by decide +kernel
theorem dX12_part_341 : decode cX12_part 341 = .ok (.invokevirtual 297, 3) := by decide +kernel
theorem dX12_part_344 : decode cX12_part 344 = .ok (.invokevirtual 317, 3) := by decide +kernel
theorem dX12_part_347 : decode cX12_part 347 = .ok (.aload_n 0, 1) := by decide +kernel
theorem dX12_part_348 : decode cX12_part 348 = .ok (.iload_n 3, 1) := by decide +kernel
theorem dX12_part_349 : decode cX12_part 349 = .ok (.invokevirtual 314, 3) := by decide +kernel
theorem dX12_part_352 : decode cX12_part 352 = .ok (.iconst 1, 1) := by decide +kernel
theorem dX12_part_353 : decode cX12_part 353 = .ok (.istore_n 1, 1) := by decide +kernel
theorem dX12_part_354 : decode cX12_part 354 = .ok (.aload_n 0, 1) := by decide +kernel
theorem dX12_part_355 : decode cX12_part 355 = .ok (.iload_n 3, 1) := by decide +kernel
theorem dX12_part_356 : decode cX12_part 356 = .ok (.invokevirtual 297, 3) := by decide +kernel
theorem dX12_part_359 : decode cX12_part 359 = .ok (.iconst 3, 1) := by decide +kernel
theorem dX12_part_360 : decode cX12_part 360 = .ok (.if_icmp .ge 7, 3) := by decide +kernel
theorem dX12_part_363 : decode cX12_part 363 = .ok (.iconst 1, 1) := by decide +kernel
theorem dX12_part_364 : decode cX12_part 364 = .ok (.goto 4, 3) := by decide +kernel
theorem dX12_part_367 : decode cX12_part 367 = .ok (.iconst 0, 1) := by decide +kernel
theorem dX12_part_368 : decode cX12_part 368 = .ok (.istore_n 2, 1) := by decide +kernel
theorem dX12_part_369 : decode cX12_part 369 = .ok (.aload_n 0, 1) := by decide +kernel
theorem dX12_part_370 : decode cX12_part 370 = .ok (.invokevirtual 320, 3) := by decide +kernel
theorem dX12_part_373 : decode cX12_part 373 = .ok (.goto (-337), 3) := by decide +kernel
theorem dX12_isText_0 : decode cX12_isText 0 = .ok (.aload_n 0, 1) := by decide +kernel
theorem dX12_isText_1 : decode cX12_isText 1 = .ok (.iconst 0, 1) := by decide +kernel
theorem dX12_isText_2 : decode cX12_isText 2 = .ok (.putfield 109, 3) := by decide +kernel
theorem dX12_isText_5 : decode cX12_isText 5 = .ok (.aload_n 0, 1) := by decide +kernel
theorem dX12_isText_6 : decode cX12_isText 6 = .ok (.invokevirtual 320, 3) := by decide +kernel
theorem dX12_isText_9 : decode cX12_isText 9 = .ok (.iconst 0, 1) := by decide +kernel
theorem dX12_isText_10 : decode cX12_isText 10 = .ok (.istore_n 1, 1) := by decide +kernel
theorem dX12_isText_11 : decode cX12_isText 11 = .ok (.iload_n 1, 1) := by decide +kernel
theorem dX12_isText_12 : decode cX12_isText 12 = .ok (.iconst 2, 1) := by decide +kernel
theorem dX12_isText_13 : decode cX12_isText 13 = .ok (.if_icmp .ge 48, 3) := by decide +kernel
theorem dX12_isText_16 : decode cX12_isText 16 = .ok (.aload_n 0, 1) := by decide +kernel
theorem dX12_isText_17 : decode cX12_isText 17 = .ok (.iload_n 1, 1) := by decide +kernel
theorem dX12_isText_18 : decode cX12_isText 18 = .ok (.invokevirtual 304, 3) := by decide +kernel
theorem dX12_isText_21 : decode cX12_isText 21 = .ok (.ifCond .ne 5, 3) := by decide +kernel
theorem dX12_isText_24 : decode cX12_isText 24 = .ok (.iconst 0, 1) := by decide +kernel
theorem dX12_isText_25 : decode cX12_isText 25 = .ok (.ireturn, 1) := by decide +kernel
theorem dX12_isText_26 : decode cX12_isText 26 = .ok (.aload_n 0, 1) := by decide +kernel
theorem dX12_isText_27 : decode cX12_isText 27 = .ok (.invokevirtual 320, 3) := by decide +kernel
theorem dX12_isText_30 : decode cX12_isText 30 = .ok (.aload_n 0, 1) := by decide +kernel
theorem dX12_isText_31 : decode cX12_isText 31 = .ok (.iconst 2, 1) := by decide +kernel
theorem dX12_isText_32 : decode cX12_isText 32 = .ok (.aload_n 0, 1) := by decide +kernel
theorem dX12_isText_33 : decode cX12_isText 33 = .ok (.getfield 97, 3) := by decide +kernel
theorem dX12_isText_36 : decode cX12_isText 36 = .ok (.imul, 1) := by decide +kernel
theorem dX12_isText_37 : decode cX12_isText 37 = .ok (.iload_n 1, 1) := by decide +kernel
theorem dX12_isText_38 : decode cX12_isText 38 = .ok (.iadd, 1) := by decide +kernel
theorem dX12_isText_39 : decode cX12_isText 39 = .ok (.putfield 136, 3) := by decide +kernel
theorem dX12_isText_42 : decode cX12_isText 42 = .ok (.aload_n 0, 1) := by decide +kernel
theorem dX12_isText_43 : decode cX12_isText 43 = .ok (.invokevirtual 327, 3) := by decide +kernel
