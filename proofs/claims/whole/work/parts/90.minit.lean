/-! THE CONSTRUCTOR OF THE REFERENCE -/
theorem dX10_init_0 : decode cX10_init 0 = .ok (.aload_n 0, 1) := by decide +kernel
theorem dX10_init_1 : decode cX10_init 1 = .ok (.invokespecial 1, 3) := by decide +kernel
theorem dX10_init_4 : decode cX10_init 4 = .ok (.aload_n 0, 1) := by decide +kernel
theorem dX10_init_5 : decode cX10_init 5 = .ok (.bipush 9, 2) := by decide +kernel
theorem dX10_init_7 : decode cX10_init 7 = .ok (.putfield 7, 3) := by decide +kernel
theorem dX10_init_10 : decode cX10_init 10 = .ok (.aload_n 0, 1) := by decide +kernel
theorem dX10_init_11 : decode cX10_init 11 = .ok (.bipush 8, 2) := by decide +kernel
theorem dX10_init_13 : decode cX10_init 13 = .ok (.newarray .int, 2) := by decide +kernel
theorem dX10_init_15 : decode cX10_init 15 = .ok (.putfield 13, 3) := by decide +kernel
theorem dX10_init_18 : decode cX10_init 18 = .ok (.aload_n 0, 1) := by decide +kernel
theorem dX10_init_19 : decode cX10_init 19 = .ok (.bipush 8, 2) := by decide +kernel
theorem dX10_init_21 : decode cX10_init 21 = .ok (.newarray .int, 2) := by decide +kernel
theorem dX10_init_23 : decode cX10_init 23 = .ok (.putfield 17, 3) := by decide +kernel
theorem dX10_init_26 : decode cX10_init 26 = .ok (.aload_n 0, 1) := by decide +kernel
theorem dX10_init_27 : decode cX10_init 27 = .ok (.bipush 8, 2) := by decide +kernel
theorem dX10_init_29 : decode cX10_init 29 = .ok (.newarray .int, 2) := by decide +kernel
theorem dX10_init_31 : decode cX10_init 31 = .ok (.putfield 20, 3) := by decide +kernel
theorem dX10_init_34 : decode cX10_init 34 = .ok (.aload_n 0, 1) := by decide +kernel
theorem dX10_init_35 : decode cX10_init 35 = .ok (.bipush 8, 2) := by decide +kernel
theorem dX10_init_37 : decode cX10_init 37 = .ok (.newarray .int, 2) := by decide +kernel
theorem dX10_init_39 : decode cX10_init 39 = .ok (.putfield 23, 3) := by decide +kernel
theorem dX10_init_42 : decode cX10_init 42 = .ok (.aload_n 0, 1) := by decide +kernel
theorem dX10_init_43 : decode cX10_init 43 = .ok (.bipush 8, 2) := by decide +kernel
theorem dX10_init_45 : decode cX10_init 45 = .ok (.newarray .int, 2) := by decide +kernel
theorem dX10_init_47 : decode cX10_init 47 = .ok (.putfield 26, 3) := by decide +kernel
theorem dX10_init_50 : decode cX10_init 50 = .ok (.aload_n 0, 1) := by decide +kernel
theorem dX10_init_51 : decode cX10_init 51 = .ok (.bipush 8, 2) := by decide +kernel
theorem dX10_init_53 : decode cX10_init 53 = .ok (.newarray .int, 2) := by decide +kernel
theorem dX10_init_55 : decode cX10_init 55 = .ok (.putfield 29, 3) := by decide +kernel
theorem dX10_init_58 : decode cX10_init 58 = .ok (.aload_n 0, 1) := by decide +kernel
theorem dX10_init_59 : decode cX10_init 59 = .ok (.sipush 1300, 3) := by decide +kernel
theorem dX10_init_62 : decode cX10_init 62 = .ok (.newarray .int, 2) := by decide +kernel
theorem dX10_init_64 : decode cX10_init 64 = .ok (.putfield 32, 3) := by decide +kernel
theorem dX10_init_67 : decode cX10_init 67 = .ok (.aload_n 0, 1) := by decide +kernel
theorem dX10_init_68 : decode cX10_init 68 = .ok (.sipush 500, 3) := by decide +kernel
theorem dX10_init_71 : decode cX10_init 71 = .ok (.newarray .int, 2) := by decide +kernel
theorem dX10_init_73 : decode cX10_init 73 = .ok (.putfield 35, 3) := by decide +kernel
theorem dX10_init_76 : decode cX10_init 76 = .ok (.aload_n 0, 1) := by decide +kernel
theorem dX10_init_77 : decode cX10_init 77 = .ok (.bipush 8, 2) := by decide +kernel
theorem dX10_init_79 : decode cX10_init 79 = .ok (.newarray .int, 2) := by decide +kernel
theorem dX10_init_81 : decode cX10_init 81 = .ok (.putfield 38, 3) := by decide +kernel
theorem dX10_init_84 : decode cX10_init 84 = .ok (.aload_n 0, 1) := by decide +kernel
theorem dX10_init_85 : decode cX10_init 85 = .ok (.bipush 8, 2) := by decide +kernel
theorem dX10_init_87 : decode cX10_init 87 = .ok (.newarray .int, 2) := by decide +kernel
theorem dX10_init_89 : decode cX10_init 89 = .ok (.putfield 41, 3) := by decide +kernel
theorem dX10_init_92 : decode cX10_init 92 = .ok (.aload_n 0, 1) := by decide +kernel
theorem dX10_init_93 : decode cX10_init 93 = .ok (.sipush 500, 3) := by decide +kernel
theorem dX10_init_96 : decode cX10_init 96 = .ok (.newarray .int, 2) := by decide +kernel
theorem dX10_init_98 : decode cX10_init 98 = .ok (.putfield 44, 3) := by decide +kernel
theorem dX10_init_101 : decode cX10_init 101 = .ok (.aload_n 0, 1) := by decide +kernel
theorem dX10_init_102 : decode cX10_init 102 = .ok (.iconst (-1), 1) := by decide +kernel
theorem dX10_init_103 : decode cX10_init 103 = .ok (.putfield 47, 3) := by decide +kernel
theorem dX10_init_106 : decode cX10_init 106 = .ok (.aload_n 0, 1) := by decide +kernel
theorem dX10_init_107 : decode cX10_init 107 = .ok (.iconst 3, 1) := by decide +kernel
theorem dX10_init_108 : decode cX10_init 108 = .ok (.newarray .int, 2) := by decide +kernel
theorem dX10_init_110 : decode cX10_init 110 = .ok (.putfield 50, 3) := by decide +kernel
theorem dX10_init_113 : decode cX10_init 113 = .ok (.aload_n 0, 1) := by decide +kernel
theorem dX10_init_114 : decode cX10_init 114 = .ok (.bipush 8, 2) := by decide +kernel
theorem dX10_init_116 : decode cX10_init 116 = .ok (.newarray .int, 2) := by decide +kernel
theorem dX10_init_118 : decode cX10_init 118 = .ok (.putfield 53, 3) := by decide +kernel
theorem dX10_init_121 : decode cX10_init 121 = .ok (.aload_n 0, 1) := by decide +kernel
theorem dX10_init_122 : decode cX10_init 122 = .ok (.bipush 8, 2) := by decide +kernel
theorem dX10_init_124 : decode cX10_init 124 = .ok (.newarray .int, 2) := by decide +kernel
theorem dX10_init_126 : decode cX10_init 126 = .ok (.putfield 56, 3) := by decide +kernel
theorem dX10_init_129 : decode cX10_init 129 = .ok (.aload_n 0, 1) := by decide +kernel
theorem dX10_init_130 : decode cX10_init 130 = .ok (.bipush 8, 2) := by decide +kernel
theorem dX10_init_132 : decode cX10_init 132 = .ok (.newarray .int, 2) := by decide +kernel
theorem dX10_init_134 : decode cX10_init 134 = .ok (.putfield 59, 3) := by decide +kernel
theorem dX10_init_137 : decode cX10_init 137 = .ok (.aload_n 0, 1) := by decide +kernel
theorem dX10_init_138 : decode cX10_init 138 = .ok (.bipush 8, 2) := by decide +kernel
theorem dX10_init_140 : decode cX10_init 140 = .ok (.newarray .int, 2) := by decide +kernel
theorem dX10_init_142 : decode cX10_init 142 = .ok (.putfield 62, 3) := by decide +kernel
theorem dX10_init_145 : decode cX10_init 145 = .ok (.aload_n 0, 1) := by decide +kernel
theorem dX10_init_146 : decode cX10_init 146 = .ok (.bipush 8, 2) := by decide +kernel
theorem dX10_init_148 : decode cX10_init 148 = .ok (.newarray .int, 2) := by decide +kernel
theorem dX10_init_150 : decode cX10_init 150 = .ok (.putfield 65, 3) := by decide +kernel
theorem dX10_init_153 : decode cX10_init 153 = .ok (.aload_n 0, 1) := by decide +kernel
theorem dX10_init_154 : decode cX10_init 154 = .ok (.bipush 8, 2) := by decide +kernel
theorem dX10_init_156 : decode cX10_init 156 = .ok (.newarray .int, 2) := by decide +kernel
theorem dX10_init_158 : decode cX10_init 158 = .ok (.putfield 68, 3) := by decide +kernel
theorem dX10_init_161 : decode cX10_init 161 = .ok (.aload_n 0, 1) := by decide +kernel
theorem dX10_init_162 : decode cX10_init 162 = .ok (.bipush 8, 2) := by decide +kernel
theorem dX10_init_164 : decode cX10_init 164 = .ok (.newarray .int, 2) := by decide +kernel
theorem dX10_init_166 : decode cX10_init 166 = .ok (.putfield 71, 3) := by decide +kernel
theorem dX10_init_169 : decode cX10_init 169 = .ok (.aload_n 0, 1) := by decide +kernel
theorem dX10_init_170 : decode cX10_init 170 = .ok (.sipush 1300, 3) := by decide +kernel
theorem dX10_init_173 : decode cX10_init 173 = .ok (.newarray .int, 2) := by decide +kernel
theorem dX10_init_175 : decode cX10_init 175 = .ok (.putfield 74, 3) := by decide +kernel
theorem dX10_init_178 : decode cX10_init 178 = .ok (.aload_n 0, 1) := by decide +kernel
theorem dX10_init_179 : decode cX10_init 179 = .ok (.sipush 650, 3) := by decide +kernel
theorem dX10_init_182 : decode cX10_init 182 = .ok (.newarray .int, 2) := by decide +kernel
theorem dX10_init_184 : decode cX10_init 184 = .ok (.putfield 77, 3) := by decide +kernel
theorem dX10_init_187 : decode cX10_init 187 = .ok (.aload_n 0, 1) := by decide +kernel
theorem dX10_init_188 : decode cX10_init 188 = .ok (.bipush 9, 2) := by decide +kernel
theorem dX10_init_190 : decode cX10_init 190 = .ok (.newarray .boolean, 2) := by decide +kernel
theorem dX10_init_192 : decode cX10_init 192 = .ok (.putfield 80, 3) := by decide +kernel
theorem dX10_init_195 : decode cX10_init 195 = .ok (.aload_n 0, 1) := by decide +kernel
theorem dX10_init_196 : decode cX10_init 196 = .ok (.bipush 90, 2) := by decide +kernel
theorem dX10_init_198 : decode cX10_init 198 = .ok (.newarray .int, 2) := by decide +kernel
theorem dX10_init_200 : decode cX10_init 200 = .ok (.putfield 84, 3) := by decide +kernel
theorem dX10_init_203 : decode cX10_init 203 = .ok (.aload_n 0, 1) := by decide +kernel
theorem dX10_init_204 : decode cX10_init 204 = .ok (.bipush 20, 2) := by decide +kernel
theorem dX10_init_206 : decode cX10_init 206 = .ok (.newarray .int, 2) := by decide +kernel
theorem dX10_init_208 : decode cX10_init 208 = .ok (.putfield 87, 3) := by decide +kernel
theorem dX10_init_211 : decode cX10_init 211 = .ok (.aload_n 0, 1) := by decide +kernel
theorem dX10_init_212 : decode cX10_init 212 = .ok (.bipush 8, 2) := by decide +kernel
theorem dX10_init_214 : decode cX10_init 214 = .ok (.newarray .int, 2) := by decide +kernel
theorem dX10_init_216 : decode cX10_init 216 = .ok (.putfield 90, 3) := by decide +kernel
theorem dX10_init_219 : decode cX10_init 219 = .ok (.aload_n 0, 1) := by decide +kernel
theorem dX10_init_220 : decode cX10_init 220 = .ok (.sipush 650, 3) := by decide +kernel
theorem dX10_init_223 : decode cX10_init 223 = .ok (.newarray .int, 2) := by decide +kernel
theorem dX10_init_225 : decode cX10_init 225 = .ok (.putfield 93, 3) := by decide +kernel
theorem dX10_init_228 : decode cX10_init 228 = .ok (.aload_n 0, 1) := by decide +kernel
theorem dX10_init_229 : decode cX10_init 229 = .ok (.sipush 8000, 3) := by decide +kernel
theorem dX10_init_232 : decode cX10_init 232 = .ok (.newarray .int, 2) := by decide +kernel
theorem dX10_init_234 : decode cX10_init 234 = .ok (.putfield 96, 3) := by decide +kernel
theorem dX10_init_237 : decode cX10_init 237 = .ok (.aload_n 0, 1) := by decide +kernel
theorem dX10_init_238 : decode cX10_init 238 = .ok (.iconst (-1), 1) := by decide +kernel
theorem dX10_init_239 : decode cX10_init 239 = .ok (.putfield 99, 3) := by decide +kernel
theorem dX10_init_242 : decode cX10_init 242 = .ok (.aload_n 0, 1) := by decide +kernel
theorem dX10_init_243 : decode cX10_init 243 = .ok (.iconst (-1), 1) := by decide +kernel
theorem dX10_init_244 : decode cX10_init 244 = .ok (.putfield 102, 3) := by decide +kernel
theorem dX10_init_247 : decode cX10_init 247 = .ok (.aload_n 0, 1) := by decide +kernel
theorem dX10_init_248 : decode cX10_init 248 = .ok (.sipush 168, 3) := by decide +kernel
theorem dX10_init_251 : decode cX10_init 251 = .ok (.newarray .long, 2) := by decide +kernel
theorem dX10_init_253 : decode cX10_init 253 = .ok (.putfield 105, 3) := by decide +kernel
theorem dX10_init_256 : decode cX10_init 256 = .ok (.aload_n 0, 1) := by decide +kernel
theorem dX10_init_257 : decode cX10_init 257 = .ok (.bipush 9, 2) := by decide +kernel
theorem dX10_init_259 : decode cX10_init 259 = .ok (.newarray .long, 2) := by decide +kernel
theorem dX10_init_261 : decode cX10_init 261 = .ok (.putfield 109, 3) := by decide +kernel
theorem dX10_init_264 : decode cX10_init 264 = .ok (.aload_n 0, 1) := by decide +kernel
theorem dX10_init_265 : decode cX10_init 265 = .ok (.bipush 9, 2) := by decide +kernel
theorem dX10_init_267 : decode cX10_init 267 = .ok (.newarray .int, 2) := by decide +kernel
theorem dX10_init_269 : decode cX10_init 269 = .ok (.putfield 112, 3) := by decide +kernel
theorem dX10_init_272 : decode cX10_init 272 = .ok (.aload_n 0, 1) := by decide +kernel
theorem dX10_init_273 : decode cX10_init 273 = .ok (.bipush 9, 2) := by decide +kernel
theorem dX10_init_275 : decode cX10_init 275 = .ok (.newarray .int, 2) := by decide +kernel
theorem dX10_init_277 : decode cX10_init 277 = .ok (.putfield 115, 3) := by decide +kernel
theorem dX10_init_280 : decode cX10_init 280 = .ok (.aload_n 0, 1) := by decide +kernel
theorem dX10_init_281 : decode cX10_init 281 = .ok (.bipush 8, 2) := by decide +kernel
theorem dX10_init_283 : decode cX10_init 283 = .ok (.newarray .int, 2) := by decide +kernel
theorem dX10_init_285 : decode cX10_init 285 = .ok (.putfield 118, 3) := by decide +kernel
theorem dX10_init_288 : decode cX10_init 288 = .ok (.aload_n 0, 1) := by decide +kernel
theorem dX10_init_289 : decode cX10_init 289 = .ok (.bipush 8, 2) := by decide +kernel
theorem dX10_init_291 : decode cX10_init 291 = .ok (.newarray .int, 2) := by decide +kernel
theorem dX10_init_293 : decode cX10_init 293 = .ok (.putfield 121, 3) := by decide +kernel
theorem dX10_init_296 : decode cX10_init 296 = .ok (.aload_n 0, 1) := by decide +kernel
theorem dX10_init_297 : decode cX10_init 297 = .ok (.bipush 8, 2) := by decide +kernel
theorem dX10_init_299 : decode cX10_init 299 = .ok (.newarray .int, 2) := by decide +kernel
theorem dX10_init_301 : decode cX10_init 301 = .ok (.putfield 124, 3) := by decide +kernel
theorem dX10_init_304 : decode cX10_init 304 = .ok (.aload_n 0, 1) := by decide +kernel
theorem dX10_init_305 : decode cX10_init 305 = .ok (.bipush 8, 2) := by decide +kernel
theorem dX10_init_307 : decode cX10_init 307 = .ok (.newarray .int, 2) := by decide +kernel
theorem dX10_init_309 : decode cX10_init 309 = .ok (.putfield 127, 3) := by decide +kernel
theorem dX10_init_312 : decode cX10_init 312 = .ok (.aload_n 0, 1) := by decide +kernel
theorem dX10_init_313 : decode cX10_init 313 = .ok (.bipush 10, 2) := by decide +kernel
theorem dX10_init_315 : decode cX10_init 315 = .ok (.newarray .int, 2) := by decide +kernel
theorem dX10_init_317 : decode cX10_init 317 = .ok (.putfield 130, 3) := by decide +kernel
theorem dX10_init_320 : decode cX10_init 320 = .ok (.aload_n 0, 1) := by decide +kernel
theorem dX10_init_321 : decode cX10_init 321 = .ok (.bipush 10, 2) := by decide +kernel
theorem dX10_init_323 : decode cX10_init 323 = .ok (.newarray .int, 2) := by decide +kernel
theorem dX10_init_325 : decode cX10_init 325 = .ok (.putfield 133, 3) := by decide +kernel
theorem dX10_init_328 : decode cX10_init 328 = .ok (.aload_n 0, 1) := by decide +kernel
theorem dX10_init_329 : decode cX10_init 329 = .ok (.sipush 10240, 3) := by decide +kernel
theorem dX10_init_332 : decode cX10_init 332 = .ok (.newarray .int, 2) := by decide +kernel
theorem dX10_init_334 : decode cX10_init 334 = .ok (.putfield 136, 3) := by decide +kernel
theorem dX10_init_337 : decode cX10_init 337 = .ok (.aload_n 0, 1) := by decide +kernel
theorem dX10_init_338 : decode cX10_init 338 = .ok (.iconst (-1), 1) := by decide +kernel
theorem dX10_init_339 : decode cX10_init 339 = .ok (.putfield 139, 3) := by decide +kernel
theorem dX10_init_342 : decode cX10_init 342 = .ok (.aload_n 0, 1) := by decide +kernel
theorem dX10_init_343 : decode cX10_init 343 = .ok (.bipush 8, 2) := by decide +kernel
theorem dX10_init_345 : decode cX10_init 345 = .ok (.newarray .int, 2) := by decide +kernel
theorem dX10_init_347 : decode cX10_init 347 = .ok (.putfield 142, 3) := by decide +kernel
theorem dX10_init_350 : decode cX10_init 350 = .ok (.aload_n 0, 1) := by decide +kernel
theorem dX10_init_351 : decode cX10_init 351 = .ok (.sipush 1100, 3) := by decide +kernel
theorem dX10_init_354 : decode cX10_init 354 = .ok (.newarray .int, 2) := by decide +kernel
theorem dX10_init_356 : decode cX10_init 356 = .ok (.putfield 145, 3) := by decide +kernel
theorem dX10_init_359 : decode cX10_init 359 = .ok (.aload_n 0, 1) := by decide +kernel
theorem dX10_init_360 : decode cX10_init 360 = .ok (.bipush 8, 2) := by decide +kernel
theorem dX10_init_362 : decode cX10_init 362 = .ok (.newarray .int, 2) := by decide +kernel
theorem dX10_init_364 : decode cX10_init 364 = .ok (.putfield 148, 3) := by decide +kernel
theorem dX10_init_367 : decode cX10_init 367 = .ok (.aload_n 0, 1) := by decide +kernel
theorem dX10_init_368 : decode cX10_init 368 = .ok (.bipush 8, 2) := by decide +kernel
theorem dX10_init_370 : decode cX10_init 370 = .ok (.newarray .int, 2) := by decide +kernel
theorem dX10_init_372 : decode cX10_init 372 = .ok (.putfield 151, 3) := by decide +kernel
theorem dX10_init_375 : decode cX10_init 375 = .ok (.aload_n 0, 1) := by decide +kernel
theorem dX10_init_376 : decode cX10_init 376 = .ok (.bipush 8, 2) := by decide +kernel
theorem dX10_init_378 : decode cX10_init 378 = .ok (.newarray .int, 2) := by decide +kernel
theorem dX10_init_380 : decode cX10_init 380 = .ok (.putfield 154, 3) := by decide +kernel
theorem dX10_init_383 : decode cX10_init 383 = .ok (.aload_n 0, 1) := by decide +kernel
theorem dX10_init_384 : decode cX10_init 384 = .ok (.bipush 8, 2) := by decide +kernel
theorem dX10_init_386 : decode cX10_init 386 = .ok (.newarray .int, 2) := by decide +kernel
theorem dX10_init_388 : decode cX10_init 388 = .ok (.putfield 157, 3) := by decide +kernel
theorem dX10_init_391 : decode cX10_init 391 = .ok (.aload_n 0, 1) := by decide +kernel
theorem dX10_init_392 : decode cX10_init 392 = .ok (.bipush 8, 2) := by decide +kernel
theorem dX10_init_394 : decode cX10_init 394 = .ok (.newarray .int, 2) := by decide +kernel
theorem dX10_init_396 : decode cX10_init 396 = .ok (.putfield 160, 3) := by decide +kernel
theorem dX10_init_399 : decode cX10_init 399 = .ok (.aload_n 0, 1) := by decide +kernel
theorem dX10_init_400 : decode cX10_init 400 = .ok (.bipush 8, 2) := by decide +kernel
theorem dX10_init_402 : decode cX10_init 402 = .ok (.newarray .int, 2) := by decide +kernel
theorem dX10_init_404 : decode cX10_init 404 = .ok (.putfield 163, 3) := by decide +kernel
theorem dX10_init_407 : decode cX10_init 407 = .ok (.aload_n 0, 1) := by decide +kernel
theorem dX10_init_408 : decode cX10_init 408 = .ok (.sipush 1300, 3) := by decide +kernel
theorem dX10_init_411 : decode cX10_init 411 = .ok (.newarray .int, 2) := by decide +kernel
theorem dX10_init_413 : decode cX10_init 413 = .ok (.putfield 166, 3) := by decide +kernel
theorem dX10_init_416 : decode cX10_init 416 = .ok (.aload_n 0, 1) := by decide +kernel
theorem dX10_init_417 : decode cX10_init 417 = .ok (.sipush 500, 3) := by decide +kernel
theorem dX10_init_420 : decode cX10_init 420 = .ok (.newarray .int, 2) := by decide +kernel
theorem dX10_init_422 : decode cX10_init 422 = .ok (.putfield 169, 3) := by decide +kernel
theorem dX10_init_425 : decode cX10_init 425 = .ok (.aload_n 0, 1) := by decide +kernel
theorem dX10_init_426 : decode cX10_init 426 = .ok (.bipush 8, 2) := by decide +kernel
theorem dX10_init_428 : decode cX10_init 428 = .ok (.newarray .int, 2) := by decide +kernel
theorem dX10_init_430 : decode cX10_init 430 = .ok (.putfield 172, 3) := by decide +kernel
theorem dX10_init_433 : decode cX10_init 433 = .ok (.aload_n 0, 1) := by decide +kernel
theorem dX10_init_434 : decode cX10_init 434 = .ok (.bipush 8, 2) := by decide +kernel
theorem dX10_init_436 : decode cX10_init 436 = .ok (.newarray .int, 2) := by decide +kernel
theorem dX10_init_438 : decode cX10_init 438 = .ok (.putfield 175, 3) := by decide +kernel
theorem dX10_init_441 : decode cX10_init 441 = .ok (.aload_n 0, 1) := by decide +kernel
theorem dX10_init_442 : decode cX10_init 442 = .ok (.bipush 8, 2) := by decide +kernel
theorem dX10_init_444 : decode cX10_init 444 = .ok (.newarray .int, 2) := by decide +kernel
theorem dX10_init_446 : decode cX10_init 446 = .ok (.putfield 178, 3) := by decide +kernel
theorem dX10_init_449 : decode cX10_init 449 = .ok (.aload_n 0, 1) := by decide +kernel
theorem dX10_init_450 : decode cX10_init 450 = .ok (.bipush 8, 2) := by decide +kernel
theorem dX10_init_452 : decode cX10_init 452 = .ok (.newarray .int, 2) := by decide +kernel
theorem dX10_init_454 : decode cX10_init 454 = .ok (.putfield 181, 3) := by decide +kernel
theorem dX10_init_457 : decode cX10_init 457 = .ok (.aload_n 0, 1) := by decide +kernel
theorem dX10_init_458 : decode cX10_init 458 = .ok (.bipush 8, 2) := by decide +kernel
theorem dX10_init_460 : decode cX10_init 460 = .ok (.newarray .int, 2) := by decide +kernel
theorem dX10_init_462 : decode cX10_init 462 = .ok (.putfield 184, 3) := by decide +kernel
theorem dX10_init_465 : decode cX10_init 465 = .ok (.aload_n 0, 1) := by decide +kernel
theorem dX10_init_466 : decode cX10_init 466 = .ok (.bipush 90, 2) := by decide +kernel
theorem dX10_init_468 : decode cX10_init 468 = .ok (.newarray .int, 2) := by decide +kernel
theorem dX10_init_470 : decode cX10_init 470 = .ok (.putfield 187, 3) := by decide +kernel
theorem dX10_init_473 : decode cX10_init 473 = .ok (.aload_n 0, 1) := by decide +kernel
theorem dX10_init_474 : decode cX10_init 474 = .ok (.bipush 20, 2) := by decide +kernel
theorem dX10_init_476 : decode cX10_init 476 = .ok (.newarray .int, 2) := by decide +kernel
theorem dX10_init_478 : decode cX10_init 478 = .ok (.putfield 190, 3) := by decide +kernel
theorem dX10_init_481 : decode cX10_init 481 = .ok (.return_, 1) := by decide +kernel
set_option maxHeartbeats 40000000 in
set_option maxRecDepth 100000 in
theorem c_X10_init (b : Nat) {n : Nat} {kd : mK} {I : mI} {J : mJ} {P : mP} (hB : bare n b 10 kd I J P) (hl : b < 999900) : Ct yX10_init cX10_init 1 none 1 55 26743 [.ref b] n kd I J P (fun z n' kd' I' J' P' => z = .inl none ∧ n' = b + 56 ∧ kM kd' P' b ∧ lowS b kd kd' I I' J J' P P' ∧ I' b = (fun j : Nat => (if j = 74 then (-1) else if j = 58 then (-1) else if j = 54 then (-1) else if j = 17 then (-1) else if j = 2 then nI 9 else 0 : Int32)) ∧ (∀ i, 1 ≤ i → i ≤ 55 → I' (b + i) = (fun _ => 0) ∧ J' (b + i) = (fun _ => 0))) := by
  obtain ⟨rfl, hk0, hI0, hJ0, hP0⟩ := hB
  refine ct_of 0 (by decide +kernel) (Nat.le_of_ble_eq_true rfl) rfl ?_
  refine r_aload_n dX10_init_0 rfl ?_
  refine r_obj dX10_init_1 oi_X10 oi_in oi_co (by decide) (Nat.le_of_ble_eq_true rfl) ?_
  refine r_aload_n dX10_init_4 rfl ?_
  refine r_bipush (v := nI 9) dX10_init_5 (by decide) ?_
  refine r_putI dX10_init_7 fl_X10_7 rfl rfl (by (try simp (disch := omega) only [am_up_e, am_up_n]); exact hk0) ?_
  refine r_aload_n dX10_init_10 rfl ?_
  refine r_bipush (v := nI 8) dX10_init_11 (by decide) ?_
  refine r_newInt (N := 8) (kc2 := 54) (ks2 := 26735) dX10_init_13 (by decide) (nI_clamp (by decide)) (by decide) (by omega) (by omega) (by omega) ?_
  refine r_putR dX10_init_15 fl_X10_13 (Or.inr ⟨rfl, rfl, rfl⟩) rfl (by (try simp (disch := omega) only [am_up_e, am_up_n]); exact hk0) (by omega) ?_
  refine r_aload_n dX10_init_18 rfl ?_
  refine r_bipush (v := nI 8) dX10_init_19 (by decide) ?_
  refine r_newInt (N := 8) (kc2 := 53) (ks2 := 26727) dX10_init_21 (by decide) (nI_clamp (by decide)) (by decide) (by omega) (by omega) (by omega) ?_
  refine r_putR dX10_init_23 fl_X10_17 (Or.inr ⟨rfl, rfl, rfl⟩) rfl (by (try simp (disch := omega) only [am_up_e, am_up_n]); exact hk0) (by omega) ?_
  refine r_aload_n dX10_init_26 rfl ?_
  refine r_bipush (v := nI 8) dX10_init_27 (by decide) ?_
  refine r_newInt (N := 8) (kc2 := 52) (ks2 := 26719) dX10_init_29 (by decide) (nI_clamp (by decide)) (by decide) (by omega) (by omega) (by omega) ?_
  refine r_putR dX10_init_31 fl_X10_20 (Or.inr ⟨rfl, rfl, rfl⟩) rfl (by (try simp (disch := omega) only [am_up_e, am_up_n]); exact hk0) (by omega) ?_
  refine r_aload_n dX10_init_34 rfl ?_
  refine r_bipush (v := nI 8) dX10_init_35 (by decide) ?_
  refine r_newInt (N := 8) (kc2 := 51) (ks2 := 26711) dX10_init_37 (by decide) (nI_clamp (by decide)) (by decide) (by omega) (by omega) (by omega) ?_
  refine r_putR dX10_init_39 fl_X10_23 (Or.inr ⟨rfl, rfl, rfl⟩) rfl (by (try simp (disch := omega) only [am_up_e, am_up_n]); exact hk0) (by omega) ?_
  refine r_aload_n dX10_init_42 rfl ?_
  refine r_bipush (v := nI 8) dX10_init_43 (by decide) ?_
  refine r_newInt (N := 8) (kc2 := 50) (ks2 := 26703) dX10_init_45 (by decide) (nI_clamp (by decide)) (by decide) (by omega) (by omega) (by omega) ?_
  refine r_putR dX10_init_47 fl_X10_26 (Or.inr ⟨rfl, rfl, rfl⟩) rfl (by (try simp (disch := omega) only [am_up_e, am_up_n]); exact hk0) (by omega) ?_
  refine r_aload_n dX10_init_50 rfl ?_
  refine r_bipush (v := nI 8) dX10_init_51 (by decide) ?_
  refine r_newInt (N := 8) (kc2 := 49) (ks2 := 26695) dX10_init_53 (by decide) (nI_clamp (by decide)) (by decide) (by omega) (by omega) (by omega) ?_
  refine r_putR dX10_init_55 fl_X10_29 (Or.inr ⟨rfl, rfl, rfl⟩) rfl (by (try simp (disch := omega) only [am_up_e, am_up_n]); exact hk0) (by omega) ?_
  refine r_aload_n dX10_init_58 rfl ?_
  refine r_sipush (v := nI 1300) dX10_init_59 (by decide) ?_
  refine r_newInt (N := 1300) (kc2 := 48) (ks2 := 25395) dX10_init_62 (by decide) (nI_clamp (by decide)) (by decide) (by omega) (by omega) (by omega) ?_
  refine r_putR dX10_init_64 fl_X10_32 (Or.inr ⟨rfl, rfl, rfl⟩) rfl (by (try simp (disch := omega) only [am_up_e, am_up_n]); exact hk0) (by omega) ?_
  refine r_aload_n dX10_init_67 rfl ?_
  refine r_sipush (v := nI 500) dX10_init_68 (by decide) ?_
  refine r_newInt (N := 500) (kc2 := 47) (ks2 := 24895) dX10_init_71 (by decide) (nI_clamp (by decide)) (by decide) (by omega) (by omega) (by omega) ?_
  refine r_putR dX10_init_73 fl_X10_35 (Or.inr ⟨rfl, rfl, rfl⟩) rfl (by (try simp (disch := omega) only [am_up_e, am_up_n]); exact hk0) (by omega) ?_
  refine r_aload_n dX10_init_76 rfl ?_
  refine r_bipush (v := nI 8) dX10_init_77 (by decide) ?_
  refine r_newInt (N := 8) (kc2 := 46) (ks2 := 24887) dX10_init_79 (by decide) (nI_clamp (by decide)) (by decide) (by omega) (by omega) (by omega) ?_
  refine r_putR dX10_init_81 fl_X10_38 (Or.inr ⟨rfl, rfl, rfl⟩) rfl (by (try simp (disch := omega) only [am_up_e, am_up_n]); exact hk0) (by omega) ?_
  refine r_aload_n dX10_init_84 rfl ?_
  refine r_bipush (v := nI 8) dX10_init_85 (by decide) ?_
  refine r_newInt (N := 8) (kc2 := 45) (ks2 := 24879) dX10_init_87 (by decide) (nI_clamp (by decide)) (by decide) (by omega) (by omega) (by omega) ?_
  refine r_putR dX10_init_89 fl_X10_41 (Or.inr ⟨rfl, rfl, rfl⟩) rfl (by (try simp (disch := omega) only [am_up_e, am_up_n]); exact hk0) (by omega) ?_
  refine r_aload_n dX10_init_92 rfl ?_
  refine r_sipush (v := nI 500) dX10_init_93 (by decide) ?_
  refine r_newInt (N := 500) (kc2 := 44) (ks2 := 24379) dX10_init_96 (by decide) (nI_clamp (by decide)) (by decide) (by omega) (by omega) (by omega) ?_
  refine r_putR dX10_init_98 fl_X10_44 (Or.inr ⟨rfl, rfl, rfl⟩) rfl (by (try simp (disch := omega) only [am_up_e, am_up_n]); exact hk0) (by omega) ?_
  refine r_aload_n dX10_init_101 rfl ?_
  refine r_iconst (v := (-1)) dX10_init_102 (by decide) ?_
  refine r_putI dX10_init_103 fl_X10_47 rfl rfl (by (try simp (disch := omega) only [am_up_e, am_up_n]); exact hk0) ?_
  refine r_aload_n dX10_init_106 rfl ?_
  refine r_iconst (v := nI 3) dX10_init_107 (by decide) ?_
  refine r_newInt (N := 3) (kc2 := 43) (ks2 := 24376) dX10_init_108 (by decide) (nI_clamp (by decide)) (by decide) (by omega) (by omega) (by omega) ?_
  refine r_putR dX10_init_110 fl_X10_50 (Or.inr ⟨rfl, rfl, rfl⟩) rfl (by (try simp (disch := omega) only [am_up_e, am_up_n]); exact hk0) (by omega) ?_
  refine r_aload_n dX10_init_113 rfl ?_
  refine r_bipush (v := nI 8) dX10_init_114 (by decide) ?_
  refine r_newInt (N := 8) (kc2 := 42) (ks2 := 24368) dX10_init_116 (by decide) (nI_clamp (by decide)) (by decide) (by omega) (by omega) (by omega) ?_
  refine r_putR dX10_init_118 fl_X10_53 (Or.inr ⟨rfl, rfl, rfl⟩) rfl (by (try simp (disch := omega) only [am_up_e, am_up_n]); exact hk0) (by omega) ?_
  refine r_aload_n dX10_init_121 rfl ?_
  refine r_bipush (v := nI 8) dX10_init_122 (by decide) ?_
  refine r_newInt (N := 8) (kc2 := 41) (ks2 := 24360) dX10_init_124 (by decide) (nI_clamp (by decide)) (by decide) (by omega) (by omega) (by omega) ?_
  refine r_putR dX10_init_126 fl_X10_56 (Or.inr ⟨rfl, rfl, rfl⟩) rfl (by (try simp (disch := omega) only [am_up_e, am_up_n]); exact hk0) (by omega) ?_
  refine r_aload_n dX10_init_129 rfl ?_
  refine r_bipush (v := nI 8) dX10_init_130 (by decide) ?_
  refine r_newInt (N := 8) (kc2 := 40) (ks2 := 24352) dX10_init_132 (by decide) (nI_clamp (by decide)) (by decide) (by omega) (by omega) (by omega) ?_
  refine r_putR dX10_init_134 fl_X10_59 (Or.inr ⟨rfl, rfl, rfl⟩) rfl (by (try simp (disch := omega) only [am_up_e, am_up_n]); exact hk0) (by omega) ?_
  refine r_aload_n dX10_init_137 rfl ?_
  refine r_bipush (v := nI 8) dX10_init_138 (by decide) ?_
  refine r_newInt (N := 8) (kc2 := 39) (ks2 := 24344) dX10_init_140 (by decide) (nI_clamp (by decide)) (by decide) (by omega) (by omega) (by omega) ?_
  refine r_putR dX10_init_142 fl_X10_62 (Or.inr ⟨rfl, rfl, rfl⟩) rfl (by (try simp (disch := omega) only [am_up_e, am_up_n]); exact hk0) (by omega) ?_
  refine r_aload_n dX10_init_145 rfl ?_
  refine r_bipush (v := nI 8) dX10_init_146 (by decide) ?_
  refine r_newInt (N := 8) (kc2 := 38) (ks2 := 24336) dX10_init_148 (by decide) (nI_clamp (by decide)) (by decide) (by omega) (by omega) (by omega) ?_
  refine r_putR dX10_init_150 fl_X10_65 (Or.inr ⟨rfl, rfl, rfl⟩) rfl (by (try simp (disch := omega) only [am_up_e, am_up_n]); exact hk0) (by omega) ?_
  refine r_aload_n dX10_init_153 rfl ?_
  refine r_bipush (v := nI 8) dX10_init_154 (by decide) ?_
  refine r_newInt (N := 8) (kc2 := 37) (ks2 := 24328) dX10_init_156 (by decide) (nI_clamp (by decide)) (by decide) (by omega) (by omega) (by omega) ?_
  refine r_putR dX10_init_158 fl_X10_68 (Or.inr ⟨rfl, rfl, rfl⟩) rfl (by (try simp (disch := omega) only [am_up_e, am_up_n]); exact hk0) (by omega) ?_
  refine r_aload_n dX10_init_161 rfl ?_
  refine r_bipush (v := nI 8) dX10_init_162 (by decide) ?_
  refine r_newInt (N := 8) (kc2 := 36) (ks2 := 24320) dX10_init_164 (by decide) (nI_clamp (by decide)) (by decide) (by omega) (by omega) (by omega) ?_
  refine r_putR dX10_init_166 fl_X10_71 (Or.inr ⟨rfl, rfl, rfl⟩) rfl (by (try simp (disch := omega) only [am_up_e, am_up_n]); exact hk0) (by omega) ?_
  refine r_aload_n dX10_init_169 rfl ?_
  refine r_sipush (v := nI 1300) dX10_init_170 (by decide) ?_
  refine r_newInt (N := 1300) (kc2 := 35) (ks2 := 23020) dX10_init_173 (by decide) (nI_clamp (by decide)) (by decide) (by omega) (by omega) (by omega) ?_
  refine r_putR dX10_init_175 fl_X10_74 (Or.inr ⟨rfl, rfl, rfl⟩) rfl (by (try simp (disch := omega) only [am_up_e, am_up_n]); exact hk0) (by omega) ?_
  refine r_aload_n dX10_init_178 rfl ?_
  refine r_sipush (v := nI 650) dX10_init_179 (by decide) ?_
  refine r_newInt (N := 650) (kc2 := 34) (ks2 := 22370) dX10_init_182 (by decide) (nI_clamp (by decide)) (by decide) (by omega) (by omega) (by omega) ?_
  refine r_putR dX10_init_184 fl_X10_77 (Or.inr ⟨rfl, rfl, rfl⟩) rfl (by (try simp (disch := omega) only [am_up_e, am_up_n]); exact hk0) (by omega) ?_
  refine r_aload_n dX10_init_187 rfl ?_
  refine r_bipush (v := nI 9) dX10_init_188 (by decide) ?_
  refine r_newBoolean (N := 9) (kc2 := 33) (ks2 := 22361) dX10_init_190 (by decide) (nI_clamp (by decide)) (by decide) (by omega) (by omega) (by omega) ?_
  refine r_putR dX10_init_192 fl_X10_80 (Or.inr ⟨rfl, rfl, rfl⟩) rfl (by (try simp (disch := omega) only [am_up_e, am_up_n]); exact hk0) (by omega) ?_
  refine r_aload_n dX10_init_195 rfl ?_
  refine r_bipush (v := nI 90) dX10_init_196 (by decide) ?_
  refine r_newInt (N := 90) (kc2 := 32) (ks2 := 22271) dX10_init_198 (by decide) (nI_clamp (by decide)) (by decide) (by omega) (by omega) (by omega) ?_
  refine r_putR dX10_init_200 fl_X10_84 (Or.inr ⟨rfl, rfl, rfl⟩) rfl (by (try simp (disch := omega) only [am_up_e, am_up_n]); exact hk0) (by omega) ?_
  refine r_aload_n dX10_init_203 rfl ?_
  refine r_bipush (v := nI 20) dX10_init_204 (by decide) ?_
  refine r_newInt (N := 20) (kc2 := 31) (ks2 := 22251) dX10_init_206 (by decide) (nI_clamp (by decide)) (by decide) (by omega) (by omega) (by omega) ?_
  refine r_putR dX10_init_208 fl_X10_87 (Or.inr ⟨rfl, rfl, rfl⟩) rfl (by (try simp (disch := omega) only [am_up_e, am_up_n]); exact hk0) (by omega) ?_
  refine r_aload_n dX10_init_211 rfl ?_
  refine r_bipush (v := nI 8) dX10_init_212 (by decide) ?_
  refine r_newInt (N := 8) (kc2 := 30) (ks2 := 22243) dX10_init_214 (by decide) (nI_clamp (by decide)) (by decide) (by omega) (by omega) (by omega) ?_
  refine r_putR dX10_init_216 fl_X10_90 (Or.inr ⟨rfl, rfl, rfl⟩) rfl (by (try simp (disch := omega) only [am_up_e, am_up_n]); exact hk0) (by omega) ?_
  refine r_aload_n dX10_init_219 rfl ?_
  refine r_sipush (v := nI 650) dX10_init_220 (by decide) ?_
  refine r_newInt (N := 650) (kc2 := 29) (ks2 := 21593) dX10_init_223 (by decide) (nI_clamp (by decide)) (by decide) (by omega) (by omega) (by omega) ?_
  refine r_putR dX10_init_225 fl_X10_93 (Or.inr ⟨rfl, rfl, rfl⟩) rfl (by (try simp (disch := omega) only [am_up_e, am_up_n]); exact hk0) (by omega) ?_
  refine r_aload_n dX10_init_228 rfl ?_
  refine r_sipush (v := nI 8000) dX10_init_229 (by decide) ?_
  refine r_newInt (N := 8000) (kc2 := 28) (ks2 := 13593) dX10_init_232 (by decide) (nI_clamp (by decide)) (by decide) (by omega) (by omega) (by omega) ?_
  refine r_putR dX10_init_234 fl_X10_96 (Or.inr ⟨rfl, rfl, rfl⟩) rfl (by (try simp (disch := omega) only [am_up_e, am_up_n]); exact hk0) (by omega) ?_
  refine r_aload_n dX10_init_237 rfl ?_
  refine r_iconst (v := (-1)) dX10_init_238 (by decide) ?_
  refine r_putI dX10_init_239 fl_X10_99 rfl rfl (by (try simp (disch := omega) only [am_up_e, am_up_n]); exact hk0) ?_
  refine r_aload_n dX10_init_242 rfl ?_
  refine r_iconst (v := (-1)) dX10_init_243 (by decide) ?_
  refine r_putI dX10_init_244 fl_X10_102 rfl rfl (by (try simp (disch := omega) only [am_up_e, am_up_n]); exact hk0) ?_
  refine r_aload_n dX10_init_247 rfl ?_
  refine r_sipush (v := nI 168) dX10_init_248 (by decide) ?_
  refine r_newLong (N := 168) (kc2 := 27) (ks2 := 13425) dX10_init_251 (by decide) (nI_clamp (by decide)) (by decide) (by omega) (by omega) (by omega) ?_
  refine r_putR dX10_init_253 fl_X10_105 (Or.inr ⟨rfl, rfl, rfl⟩) rfl (by (try simp (disch := omega) only [am_up_e, am_up_n]); exact hk0) (by omega) ?_
  refine r_aload_n dX10_init_256 rfl ?_
  refine r_bipush (v := nI 9) dX10_init_257 (by decide) ?_
  refine r_newLong (N := 9) (kc2 := 26) (ks2 := 13416) dX10_init_259 (by decide) (nI_clamp (by decide)) (by decide) (by omega) (by omega) (by omega) ?_
  refine r_putR dX10_init_261 fl_X10_109 (Or.inr ⟨rfl, rfl, rfl⟩) rfl (by (try simp (disch := omega) only [am_up_e, am_up_n]); exact hk0) (by omega) ?_
  refine r_aload_n dX10_init_264 rfl ?_
  refine r_bipush (v := nI 9) dX10_init_265 (by decide) ?_
  refine r_newInt (N := 9) (kc2 := 25) (ks2 := 13407) dX10_init_267 (by decide) (nI_clamp (by decide)) (by decide) (by omega) (by omega) (by omega) ?_
  refine r_putR dX10_init_269 fl_X10_112 (Or.inr ⟨rfl, rfl, rfl⟩) rfl (by (try simp (disch := omega) only [am_up_e, am_up_n]); exact hk0) (by omega) ?_
  refine r_aload_n dX10_init_272 rfl ?_
  refine r_bipush (v := nI 9) dX10_init_273 (by decide) ?_
  refine r_newInt (N := 9) (kc2 := 24) (ks2 := 13398) dX10_init_275 (by decide) (nI_clamp (by decide)) (by decide) (by omega) (by omega) (by omega) ?_
  refine r_putR dX10_init_277 fl_X10_115 (Or.inr ⟨rfl, rfl, rfl⟩) rfl (by (try simp (disch := omega) only [am_up_e, am_up_n]); exact hk0) (by omega) ?_
  refine r_aload_n dX10_init_280 rfl ?_
  refine r_bipush (v := nI 8) dX10_init_281 (by decide) ?_
  refine r_newInt (N := 8) (kc2 := 23) (ks2 := 13390) dX10_init_283 (by decide) (nI_clamp (by decide)) (by decide) (by omega) (by omega) (by omega) ?_
  refine r_putR dX10_init_285 fl_X10_118 (Or.inr ⟨rfl, rfl, rfl⟩) rfl (by (try simp (disch := omega) only [am_up_e, am_up_n]); exact hk0) (by omega) ?_
  refine r_aload_n dX10_init_288 rfl ?_
  refine r_bipush (v := nI 8) dX10_init_289 (by decide) ?_
  refine r_newInt (N := 8) (kc2 := 22) (ks2 := 13382) dX10_init_291 (by decide) (nI_clamp (by decide)) (by decide) (by omega) (by omega) (by omega) ?_
  refine r_putR dX10_init_293 fl_X10_121 (Or.inr ⟨rfl, rfl, rfl⟩) rfl (by (try simp (disch := omega) only [am_up_e, am_up_n]); exact hk0) (by omega) ?_
  refine r_aload_n dX10_init_296 rfl ?_
  refine r_bipush (v := nI 8) dX10_init_297 (by decide) ?_
  refine r_newInt (N := 8) (kc2 := 21) (ks2 := 13374) dX10_init_299 (by decide) (nI_clamp (by decide)) (by decide) (by omega) (by omega) (by omega) ?_
  refine r_putR dX10_init_301 fl_X10_124 (Or.inr ⟨rfl, rfl, rfl⟩) rfl (by (try simp (disch := omega) only [am_up_e, am_up_n]); exact hk0) (by omega) ?_
  refine r_aload_n dX10_init_304 rfl ?_
  refine r_bipush (v := nI 8) dX10_init_305 (by decide) ?_
  refine r_newInt (N := 8) (kc2 := 20) (ks2 := 13366) dX10_init_307 (by decide) (nI_clamp (by decide)) (by decide) (by omega) (by omega) (by omega) ?_
  refine r_putR dX10_init_309 fl_X10_127 (Or.inr ⟨rfl, rfl, rfl⟩) rfl (by (try simp (disch := omega) only [am_up_e, am_up_n]); exact hk0) (by omega) ?_
  refine r_aload_n dX10_init_312 rfl ?_
  refine r_bipush (v := nI 10) dX10_init_313 (by decide) ?_
  refine r_newInt (N := 10) (kc2 := 19) (ks2 := 13356) dX10_init_315 (by decide) (nI_clamp (by decide)) (by decide) (by omega) (by omega) (by omega) ?_
  refine r_putR dX10_init_317 fl_X10_130 (Or.inr ⟨rfl, rfl, rfl⟩) rfl (by (try simp (disch := omega) only [am_up_e, am_up_n]); exact hk0) (by omega) ?_
  refine r_aload_n dX10_init_320 rfl ?_
  refine r_bipush (v := nI 10) dX10_init_321 (by decide) ?_
  refine r_newInt (N := 10) (kc2 := 18) (ks2 := 13346) dX10_init_323 (by decide) (nI_clamp (by decide)) (by decide) (by omega) (by omega) (by omega) ?_
  refine r_putR dX10_init_325 fl_X10_133 (Or.inr ⟨rfl, rfl, rfl⟩) rfl (by (try simp (disch := omega) only [am_up_e, am_up_n]); exact hk0) (by omega) ?_
  refine r_aload_n dX10_init_328 rfl ?_
  refine r_sipush (v := nI 10240) dX10_init_329 (by decide) ?_
  refine r_newInt (N := 10240) (kc2 := 17) (ks2 := 3106) dX10_init_332 (by decide) (nI_clamp (by decide)) (by decide) (by omega) (by omega) (by omega) ?_
  refine r_putR dX10_init_334 fl_X10_136 (Or.inr ⟨rfl, rfl, rfl⟩) rfl (by (try simp (disch := omega) only [am_up_e, am_up_n]); exact hk0) (by omega) ?_
  refine r_aload_n dX10_init_337 rfl ?_
  refine r_iconst (v := (-1)) dX10_init_338 (by decide) ?_
  refine r_putI dX10_init_339 fl_X10_139 rfl rfl (by (try simp (disch := omega) only [am_up_e, am_up_n]); exact hk0) ?_
  refine r_aload_n dX10_init_342 rfl ?_
  refine r_bipush (v := nI 8) dX10_init_343 (by decide) ?_
  refine r_newInt (N := 8) (kc2 := 16) (ks2 := 3098) dX10_init_345 (by decide) (nI_clamp (by decide)) (by decide) (by omega) (by omega) (by omega) ?_
  refine r_putR dX10_init_347 fl_X10_142 (Or.inr ⟨rfl, rfl, rfl⟩) rfl (by (try simp (disch := omega) only [am_up_e, am_up_n]); exact hk0) (by omega) ?_
  refine r_aload_n dX10_init_350 rfl ?_
  refine r_sipush (v := nI 1100) dX10_init_351 (by decide) ?_
  refine r_newInt (N := 1100) (kc2 := 15) (ks2 := 1998) dX10_init_354 (by decide) (nI_clamp (by decide)) (by decide) (by omega) (by omega) (by omega) ?_
  refine r_putR dX10_init_356 fl_X10_145 (Or.inr ⟨rfl, rfl, rfl⟩) rfl (by (try simp (disch := omega) only [am_up_e, am_up_n]); exact hk0) (by omega) ?_
  refine r_aload_n dX10_init_359 rfl ?_
  refine r_bipush (v := nI 8) dX10_init_360 (by decide) ?_
  refine r_newInt (N := 8) (kc2 := 14) (ks2 := 1990) dX10_init_362 (by decide) (nI_clamp (by decide)) (by decide) (by omega) (by omega) (by omega) ?_
  refine r_putR dX10_init_364 fl_X10_148 (Or.inr ⟨rfl, rfl, rfl⟩) rfl (by (try simp (disch := omega) only [am_up_e, am_up_n]); exact hk0) (by omega) ?_
  refine r_aload_n dX10_init_367 rfl ?_
  refine r_bipush (v := nI 8) dX10_init_368 (by decide) ?_
  refine r_newInt (N := 8) (kc2 := 13) (ks2 := 1982) dX10_init_370 (by decide) (nI_clamp (by decide)) (by decide) (by omega) (by omega) (by omega) ?_
  refine r_putR dX10_init_372 fl_X10_151 (Or.inr ⟨rfl, rfl, rfl⟩) rfl (by (try simp (disch := omega) only [am_up_e, am_up_n]); exact hk0) (by omega) ?_
  refine r_aload_n dX10_init_375 rfl ?_
  refine r_bipush (v := nI 8) dX10_init_376 (by decide) ?_
  refine r_newInt (N := 8) (kc2 := 12) (ks2 := 1974) dX10_init_378 (by decide) (nI_clamp (by decide)) (by decide) (by omega) (by omega) (by omega) ?_
  refine r_putR dX10_init_380 fl_X10_154 (Or.inr ⟨rfl, rfl, rfl⟩) rfl (by (try simp (disch := omega) only [am_up_e, am_up_n]); exact hk0) (by omega) ?_
  refine r_aload_n dX10_init_383 rfl ?_
  refine r_bipush (v := nI 8) dX10_init_384 (by decide) ?_
  refine r_newInt (N := 8) (kc2 := 11) (ks2 := 1966) dX10_init_386 (by decide) (nI_clamp (by decide)) (by decide) (by omega) (by omega) (by omega) ?_
  refine r_putR dX10_init_388 fl_X10_157 (Or.inr ⟨rfl, rfl, rfl⟩) rfl (by (try simp (disch := omega) only [am_up_e, am_up_n]); exact hk0) (by omega) ?_
  refine r_aload_n dX10_init_391 rfl ?_
  refine r_bipush (v := nI 8) dX10_init_392 (by decide) ?_
  refine r_newInt (N := 8) (kc2 := 10) (ks2 := 1958) dX10_init_394 (by decide) (nI_clamp (by decide)) (by decide) (by omega) (by omega) (by omega) ?_
  refine r_putR dX10_init_396 fl_X10_160 (Or.inr ⟨rfl, rfl, rfl⟩) rfl (by (try simp (disch := omega) only [am_up_e, am_up_n]); exact hk0) (by omega) ?_
  refine r_aload_n dX10_init_399 rfl ?_
  refine r_bipush (v := nI 8) dX10_init_400 (by decide) ?_
  refine r_newInt (N := 8) (kc2 := 9) (ks2 := 1950) dX10_init_402 (by decide) (nI_clamp (by decide)) (by decide) (by omega) (by omega) (by omega) ?_
  refine r_putR dX10_init_404 fl_X10_163 (Or.inr ⟨rfl, rfl, rfl⟩) rfl (by (try simp (disch := omega) only [am_up_e, am_up_n]); exact hk0) (by omega) ?_
  refine r_aload_n dX10_init_407 rfl ?_
  refine r_sipush (v := nI 1300) dX10_init_408 (by decide) ?_
  refine r_newInt (N := 1300) (kc2 := 8) (ks2 := 650) dX10_init_411 (by decide) (nI_clamp (by decide)) (by decide) (by omega) (by omega) (by omega) ?_
  refine r_putR dX10_init_413 fl_X10_166 (Or.inr ⟨rfl, rfl, rfl⟩) rfl (by (try simp (disch := omega) only [am_up_e, am_up_n]); exact hk0) (by omega) ?_
  refine r_aload_n dX10_init_416 rfl ?_
  refine r_sipush (v := nI 500) dX10_init_417 (by decide) ?_
  refine r_newInt (N := 500) (kc2 := 7) (ks2 := 150) dX10_init_420 (by decide) (nI_clamp (by decide)) (by decide) (by omega) (by omega) (by omega) ?_
  refine r_putR dX10_init_422 fl_X10_169 (Or.inr ⟨rfl, rfl, rfl⟩) rfl (by (try simp (disch := omega) only [am_up_e, am_up_n]); exact hk0) (by omega) ?_
  refine r_aload_n dX10_init_425 rfl ?_
  refine r_bipush (v := nI 8) dX10_init_426 (by decide) ?_
  refine r_newInt (N := 8) (kc2 := 6) (ks2 := 142) dX10_init_428 (by decide) (nI_clamp (by decide)) (by decide) (by omega) (by omega) (by omega) ?_
  refine r_putR dX10_init_430 fl_X10_172 (Or.inr ⟨rfl, rfl, rfl⟩) rfl (by (try simp (disch := omega) only [am_up_e, am_up_n]); exact hk0) (by omega) ?_
  refine r_aload_n dX10_init_433 rfl ?_
  refine r_bipush (v := nI 8) dX10_init_434 (by decide) ?_
  refine r_newInt (N := 8) (kc2 := 5) (ks2 := 134) dX10_init_436 (by decide) (nI_clamp (by decide)) (by decide) (by omega) (by omega) (by omega) ?_
  refine r_putR dX10_init_438 fl_X10_175 (Or.inr ⟨rfl, rfl, rfl⟩) rfl (by (try simp (disch := omega) only [am_up_e, am_up_n]); exact hk0) (by omega) ?_
  refine r_aload_n dX10_init_441 rfl ?_
  refine r_bipush (v := nI 8) dX10_init_442 (by decide) ?_
  refine r_newInt (N := 8) (kc2 := 4) (ks2 := 126) dX10_init_444 (by decide) (nI_clamp (by decide)) (by decide) (by omega) (by omega) (by omega) ?_
  refine r_putR dX10_init_446 fl_X10_178 (Or.inr ⟨rfl, rfl, rfl⟩) rfl (by (try simp (disch := omega) only [am_up_e, am_up_n]); exact hk0) (by omega) ?_
  refine r_aload_n dX10_init_449 rfl ?_
  refine r_bipush (v := nI 8) dX10_init_450 (by decide) ?_
  refine r_newInt (N := 8) (kc2 := 3) (ks2 := 118) dX10_init_452 (by decide) (nI_clamp (by decide)) (by decide) (by omega) (by omega) (by omega) ?_
  refine r_putR dX10_init_454 fl_X10_181 (Or.inr ⟨rfl, rfl, rfl⟩) rfl (by (try simp (disch := omega) only [am_up_e, am_up_n]); exact hk0) (by omega) ?_
  refine r_aload_n dX10_init_457 rfl ?_
  refine r_bipush (v := nI 8) dX10_init_458 (by decide) ?_
  refine r_newInt (N := 8) (kc2 := 2) (ks2 := 110) dX10_init_460 (by decide) (nI_clamp (by decide)) (by decide) (by omega) (by omega) (by omega) ?_
  refine r_putR dX10_init_462 fl_X10_184 (Or.inr ⟨rfl, rfl, rfl⟩) rfl (by (try simp (disch := omega) only [am_up_e, am_up_n]); exact hk0) (by omega) ?_
  refine r_aload_n dX10_init_465 rfl ?_
  refine r_bipush (v := nI 90) dX10_init_466 (by decide) ?_
  refine r_newInt (N := 90) (kc2 := 1) (ks2 := 20) dX10_init_468 (by decide) (nI_clamp (by decide)) (by decide) (by omega) (by omega) (by omega) ?_
  refine r_putR dX10_init_470 fl_X10_187 (Or.inr ⟨rfl, rfl, rfl⟩) rfl (by (try simp (disch := omega) only [am_up_e, am_up_n]); exact hk0) (by omega) ?_
  refine r_aload_n dX10_init_473 rfl ?_
  refine r_bipush (v := nI 20) dX10_init_474 (by decide) ?_
  refine r_newInt (N := 20) (kc2 := 0) (ks2 := 0) dX10_init_476 (by decide) (nI_clamp (by decide)) (by decide) (by omega) (by omega) (by omega) ?_
  refine r_putR dX10_init_478 fl_X10_190 (Or.inr ⟨rfl, rfl, rfl⟩) rfl (by (try simp (disch := omega) only [am_up_e, am_up_n]); exact hk0) (by omega) ?_
  refine r_vret rfl dX10_init_481 ?_
  refine ⟨rfl, rfl, ?_, ?_, ?_, ?_⟩
  · refine ⟨by simp (disch := omega) only [am_up_e, am_up_n]; exact hk0, ?_⟩
    exact List.forall_mem_cons.mpr ⟨⟨by simp (disch := omega) only [am_up_e, am_up_n], by simp (disch := omega) only [am_up_e, am_up_n]⟩, List.forall_mem_cons.mpr ⟨⟨by simp (disch := omega) only [am_up_e, am_up_n], by simp (disch := omega) only [am_up_e, am_up_n]⟩, List.forall_mem_cons.mpr ⟨⟨by simp (disch := omega) only [am_up_e, am_up_n], by simp (disch := omega) only [am_up_e, am_up_n]⟩, List.forall_mem_cons.mpr ⟨⟨by simp (disch := omega) only [am_up_e, am_up_n], by simp (disch := omega) only [am_up_e, am_up_n]⟩, List.forall_mem_cons.mpr ⟨⟨by simp (disch := omega) only [am_up_e, am_up_n], by simp (disch := omega) only [am_up_e, am_up_n]⟩, List.forall_mem_cons.mpr ⟨⟨by simp (disch := omega) only [am_up_e, am_up_n], by simp (disch := omega) only [am_up_e, am_up_n]⟩, List.forall_mem_cons.mpr ⟨⟨by simp (disch := omega) only [am_up_e, am_up_n], by simp (disch := omega) only [am_up_e, am_up_n]⟩, List.forall_mem_cons.mpr ⟨⟨by simp (disch := omega) only [am_up_e, am_up_n], by simp (disch := omega) only [am_up_e, am_up_n]⟩, List.forall_mem_cons.mpr ⟨⟨by simp (disch := omega) only [am_up_e, am_up_n], by simp (disch := omega) only [am_up_e, am_up_n]⟩, List.forall_mem_cons.mpr ⟨⟨by simp (disch := omega) only [am_up_e, am_up_n], by simp (disch := omega) only [am_up_e, am_up_n]⟩, List.forall_mem_cons.mpr ⟨⟨by simp (disch := omega) only [am_up_e, am_up_n], by simp (disch := omega) only [am_up_e, am_up_n]⟩, List.forall_mem_cons.mpr ⟨⟨by simp (disch := omega) only [am_up_e, am_up_n], by simp (disch := omega) only [am_up_e, am_up_n]⟩, List.forall_mem_cons.mpr ⟨⟨by simp (disch := omega) only [am_up_e, am_up_n], by simp (disch := omega) only [am_up_e, am_up_n]⟩, List.forall_mem_cons.mpr ⟨⟨by simp (disch := omega) only [am_up_e, am_up_n], by simp (disch := omega) only [am_up_e, am_up_n]⟩, List.forall_mem_cons.mpr ⟨⟨by simp (disch := omega) only [am_up_e, am_up_n], by simp (disch := omega) only [am_up_e, am_up_n]⟩, List.forall_mem_cons.mpr ⟨⟨by simp (disch := omega) only [am_up_e, am_up_n], by simp (disch := omega) only [am_up_e, am_up_n]⟩, List.forall_mem_cons.mpr ⟨⟨by simp (disch := omega) only [am_up_e, am_up_n], by simp (disch := omega) only [am_up_e, am_up_n]⟩, List.forall_mem_cons.mpr ⟨⟨by simp (disch := omega) only [am_up_e, am_up_n], by simp (disch := omega) only [am_up_e, am_up_n]⟩, List.forall_mem_cons.mpr ⟨⟨by simp (disch := omega) only [am_up_e, am_up_n], by simp (disch := omega) only [am_up_e, am_up_n]⟩, List.forall_mem_cons.mpr ⟨⟨by simp (disch := omega) only [am_up_e, am_up_n], by simp (disch := omega) only [am_up_e, am_up_n]⟩, List.forall_mem_cons.mpr ⟨⟨by simp (disch := omega) only [am_up_e, am_up_n], by simp (disch := omega) only [am_up_e, am_up_n]⟩, List.forall_mem_cons.mpr ⟨⟨by simp (disch := omega) only [am_up_e, am_up_n], by simp (disch := omega) only [am_up_e, am_up_n]⟩, List.forall_mem_cons.mpr ⟨⟨by simp (disch := omega) only [am_up_e, am_up_n], by simp (disch := omega) only [am_up_e, am_up_n]⟩, List.forall_mem_cons.mpr ⟨⟨by simp (disch := omega) only [am_up_e, am_up_n], by simp (disch := omega) only [am_up_e, am_up_n]⟩, List.forall_mem_cons.mpr ⟨⟨by simp (disch := omega) only [am_up_e, am_up_n], by simp (disch := omega) only [am_up_e, am_up_n]⟩, List.forall_mem_cons.mpr ⟨⟨by simp (disch := omega) only [am_up_e, am_up_n], by simp (disch := omega) only [am_up_e, am_up_n]⟩, List.forall_mem_cons.mpr ⟨⟨by simp (disch := omega) only [am_up_e, am_up_n], by simp (disch := omega) only [am_up_e, am_up_n]⟩, List.forall_mem_cons.mpr ⟨⟨by simp (disch := omega) only [am_up_e, am_up_n], by simp (disch := omega) only [am_up_e, am_up_n]⟩, List.forall_mem_cons.mpr ⟨⟨by simp (disch := omega) only [am_up_e, am_up_n], by simp (disch := omega) only [am_up_e, am_up_n]⟩, List.forall_mem_cons.mpr ⟨⟨by simp (disch := omega) only [am_up_e, am_up_n], by simp (disch := omega) only [am_up_e, am_up_n]⟩, List.forall_mem_cons.mpr ⟨⟨by simp (disch := omega) only [am_up_e, am_up_n], by simp (disch := omega) only [am_up_e, am_up_n]⟩, List.forall_mem_cons.mpr ⟨⟨by simp (disch := omega) only [am_up_e, am_up_n], by simp (disch := omega) only [am_up_e, am_up_n]⟩, List.forall_mem_cons.mpr ⟨⟨by simp (disch := omega) only [am_up_e, am_up_n], by simp (disch := omega) only [am_up_e, am_up_n]⟩, List.forall_mem_cons.mpr ⟨⟨by simp (disch := omega) only [am_up_e, am_up_n], by simp (disch := omega) only [am_up_e, am_up_n]⟩, List.forall_mem_cons.mpr ⟨⟨by simp (disch := omega) only [am_up_e, am_up_n], by simp (disch := omega) only [am_up_e, am_up_n]⟩, List.forall_mem_cons.mpr ⟨⟨by simp (disch := omega) only [am_up_e, am_up_n], by simp (disch := omega) only [am_up_e, am_up_n]⟩, List.forall_mem_cons.mpr ⟨⟨by simp (disch := omega) only [am_up_e, am_up_n], by simp (disch := omega) only [am_up_e, am_up_n]⟩, List.forall_mem_cons.mpr ⟨⟨by simp (disch := omega) only [am_up_e, am_up_n], by simp (disch := omega) only [am_up_e, am_up_n]⟩, List.forall_mem_cons.mpr ⟨⟨by simp (disch := omega) only [am_up_e, am_up_n], by simp (disch := omega) only [am_up_e, am_up_n]⟩, List.forall_mem_cons.mpr ⟨⟨by simp (disch := omega) only [am_up_e, am_up_n], by simp (disch := omega) only [am_up_e, am_up_n]⟩, List.forall_mem_cons.mpr ⟨⟨by simp (disch := omega) only [am_up_e, am_up_n], by simp (disch := omega) only [am_up_e, am_up_n]⟩, List.forall_mem_cons.mpr ⟨⟨by simp (disch := omega) only [am_up_e, am_up_n], by simp (disch := omega) only [am_up_e, am_up_n]⟩, List.forall_mem_cons.mpr ⟨⟨by simp (disch := omega) only [am_up_e, am_up_n], by simp (disch := omega) only [am_up_e, am_up_n]⟩, List.forall_mem_cons.mpr ⟨⟨by simp (disch := omega) only [am_up_e, am_up_n], by simp (disch := omega) only [am_up_e, am_up_n]⟩, List.forall_mem_cons.mpr ⟨⟨by simp (disch := omega) only [am_up_e, am_up_n], by simp (disch := omega) only [am_up_e, am_up_n]⟩, List.forall_mem_cons.mpr ⟨⟨by simp (disch := omega) only [am_up_e, am_up_n], by simp (disch := omega) only [am_up_e, am_up_n]⟩, List.forall_mem_cons.mpr ⟨⟨by simp (disch := omega) only [am_up_e, am_up_n], by simp (disch := omega) only [am_up_e, am_up_n]⟩, List.forall_mem_cons.mpr ⟨⟨by simp (disch := omega) only [am_up_e, am_up_n], by simp (disch := omega) only [am_up_e, am_up_n]⟩, List.forall_mem_cons.mpr ⟨⟨by simp (disch := omega) only [am_up_e, am_up_n], by simp (disch := omega) only [am_up_e, am_up_n]⟩, List.forall_mem_cons.mpr ⟨⟨by simp (disch := omega) only [am_up_e, am_up_n], by simp (disch := omega) only [am_up_e, am_up_n]⟩, List.forall_mem_cons.mpr ⟨⟨by simp (disch := omega) only [am_up_e, am_up_n], by simp (disch := omega) only [am_up_e, am_up_n]⟩, List.forall_mem_cons.mpr ⟨⟨by simp (disch := omega) only [am_up_e, am_up_n], by simp (disch := omega) only [am_up_e, am_up_n]⟩, List.forall_mem_cons.mpr ⟨⟨by simp (disch := omega) only [am_up_e, am_up_n], by simp (disch := omega) only [am_up_e, am_up_n]⟩, List.forall_mem_cons.mpr ⟨⟨by simp (disch := omega) only [am_up_e, am_up_n], by simp (disch := omega) only [am_up_e, am_up_n]⟩, List.forall_mem_cons.mpr ⟨⟨by simp (disch := omega) only [am_up_e, am_up_n], by simp (disch := omega) only [am_up_e, am_up_n]⟩, fun e he => absurd he List.not_mem_nil⟩⟩⟩⟩⟩⟩⟩⟩⟩⟩⟩⟩⟩⟩⟩⟩⟩⟩⟩⟩⟩⟩⟩⟩⟩⟩⟩⟩⟩⟩⟩⟩⟩⟩⟩⟩⟩⟩⟩⟩⟩⟩⟩⟩⟩⟩⟩⟩⟩⟩⟩⟩⟩⟩⟩
  · intro a ha
    (try simp (disch := omega) only [am_up_e, am_up_n])
    refine ⟨?_, ?_, ?_, ?_⟩ <;> first | trivial | rfl
  · (try simp (disch := omega) only [am_up_e, am_up_n])
    funext j
    simp only [va_up, hI0]
    repeat' split
    all_goals first | rfl | (exfalso; omega)
  · intro i h1 h2
    match i, h1, h2 with
    | 1, _, _ => refine ⟨?_, ?_⟩ <;> simp (disch := omega) only [am_up_e, am_up_n]
    | 2, _, _ => refine ⟨?_, ?_⟩ <;> simp (disch := omega) only [am_up_e, am_up_n]
    | 3, _, _ => refine ⟨?_, ?_⟩ <;> simp (disch := omega) only [am_up_e, am_up_n]
    | 4, _, _ => refine ⟨?_, ?_⟩ <;> simp (disch := omega) only [am_up_e, am_up_n]
    | 5, _, _ => refine ⟨?_, ?_⟩ <;> simp (disch := omega) only [am_up_e, am_up_n]
    | 6, _, _ => refine ⟨?_, ?_⟩ <;> simp (disch := omega) only [am_up_e, am_up_n]
    | 7, _, _ => refine ⟨?_, ?_⟩ <;> simp (disch := omega) only [am_up_e, am_up_n]
    | 8, _, _ => refine ⟨?_, ?_⟩ <;> simp (disch := omega) only [am_up_e, am_up_n]
    | 9, _, _ => refine ⟨?_, ?_⟩ <;> simp (disch := omega) only [am_up_e, am_up_n]
    | 10, _, _ => refine ⟨?_, ?_⟩ <;> simp (disch := omega) only [am_up_e, am_up_n]
    | 11, _, _ => refine ⟨?_, ?_⟩ <;> simp (disch := omega) only [am_up_e, am_up_n]
    | 12, _, _ => refine ⟨?_, ?_⟩ <;> simp (disch := omega) only [am_up_e, am_up_n]
    | 13, _, _ => refine ⟨?_, ?_⟩ <;> simp (disch := omega) only [am_up_e, am_up_n]
    | 14, _, _ => refine ⟨?_, ?_⟩ <;> simp (disch := omega) only [am_up_e, am_up_n]
    | 15, _, _ => refine ⟨?_, ?_⟩ <;> simp (disch := omega) only [am_up_e, am_up_n]
    | 16, _, _ => refine ⟨?_, ?_⟩ <;> simp (disch := omega) only [am_up_e, am_up_n]
    | 17, _, _ => refine ⟨?_, ?_⟩ <;> simp (disch := omega) only [am_up_e, am_up_n]
    | 18, _, _ => refine ⟨?_, ?_⟩ <;> simp (disch := omega) only [am_up_e, am_up_n]
    | 19, _, _ => refine ⟨?_, ?_⟩ <;> simp (disch := omega) only [am_up_e, am_up_n]
    | 20, _, _ => refine ⟨?_, ?_⟩ <;> simp (disch := omega) only [am_up_e, am_up_n]
    | 21, _, _ => refine ⟨?_, ?_⟩ <;> simp (disch := omega) only [am_up_e, am_up_n]
    | 22, _, _ => refine ⟨?_, ?_⟩ <;> simp (disch := omega) only [am_up_e, am_up_n]
    | 23, _, _ => refine ⟨?_, ?_⟩ <;> simp (disch := omega) only [am_up_e, am_up_n]
    | 24, _, _ => refine ⟨?_, ?_⟩ <;> simp (disch := omega) only [am_up_e, am_up_n]
    | 25, _, _ => refine ⟨?_, ?_⟩ <;> simp (disch := omega) only [am_up_e, am_up_n]
    | 26, _, _ => refine ⟨?_, ?_⟩ <;> simp (disch := omega) only [am_up_e, am_up_n]
    | 27, _, _ => refine ⟨?_, ?_⟩ <;> simp (disch := omega) only [am_up_e, am_up_n]
    | 28, _, _ => refine ⟨?_, ?_⟩ <;> simp (disch := omega) only [am_up_e, am_up_n]
    | 29, _, _ => refine ⟨?_, ?_⟩ <;> simp (disch := omega) only [am_up_e, am_up_n]
    | 30, _, _ => refine ⟨?_, ?_⟩ <;> simp (disch := omega) only [am_up_e, am_up_n]
    | 31, _, _ => refine ⟨?_, ?_⟩ <;> simp (disch := omega) only [am_up_e, am_up_n]
    | 32, _, _ => refine ⟨?_, ?_⟩ <;> simp (disch := omega) only [am_up_e, am_up_n]
    | 33, _, _ => refine ⟨?_, ?_⟩ <;> simp (disch := omega) only [am_up_e, am_up_n]
    | 34, _, _ => refine ⟨?_, ?_⟩ <;> simp (disch := omega) only [am_up_e, am_up_n]
    | 35, _, _ => refine ⟨?_, ?_⟩ <;> simp (disch := omega) only [am_up_e, am_up_n]
    | 36, _, _ => refine ⟨?_, ?_⟩ <;> simp (disch := omega) only [am_up_e, am_up_n]
    | 37, _, _ => refine ⟨?_, ?_⟩ <;> simp (disch := omega) only [am_up_e, am_up_n]
    | 38, _, _ => refine ⟨?_, ?_⟩ <;> simp (disch := omega) only [am_up_e, am_up_n]
    | 39, _, _ => refine ⟨?_, ?_⟩ <;> simp (disch := omega) only [am_up_e, am_up_n]
    | 40, _, _ => refine ⟨?_, ?_⟩ <;> simp (disch := omega) only [am_up_e, am_up_n]
    | 41, _, _ => refine ⟨?_, ?_⟩ <;> simp (disch := omega) only [am_up_e, am_up_n]
    | 42, _, _ => refine ⟨?_, ?_⟩ <;> simp (disch := omega) only [am_up_e, am_up_n]
    | 43, _, _ => refine ⟨?_, ?_⟩ <;> simp (disch := omega) only [am_up_e, am_up_n]
    | 44, _, _ => refine ⟨?_, ?_⟩ <;> simp (disch := omega) only [am_up_e, am_up_n]
    | 45, _, _ => refine ⟨?_, ?_⟩ <;> simp (disch := omega) only [am_up_e, am_up_n]
    | 46, _, _ => refine ⟨?_, ?_⟩ <;> simp (disch := omega) only [am_up_e, am_up_n]
    | 47, _, _ => refine ⟨?_, ?_⟩ <;> simp (disch := omega) only [am_up_e, am_up_n]
    | 48, _, _ => refine ⟨?_, ?_⟩ <;> simp (disch := omega) only [am_up_e, am_up_n]
    | 49, _, _ => refine ⟨?_, ?_⟩ <;> simp (disch := omega) only [am_up_e, am_up_n]
    | 50, _, _ => refine ⟨?_, ?_⟩ <;> simp (disch := omega) only [am_up_e, am_up_n]
    | 51, _, _ => refine ⟨?_, ?_⟩ <;> simp (disch := omega) only [am_up_e, am_up_n]
    | 52, _, _ => refine ⟨?_, ?_⟩ <;> simp (disch := omega) only [am_up_e, am_up_n]
    | 53, _, _ => refine ⟨?_, ?_⟩ <;> simp (disch := omega) only [am_up_e, am_up_n]
    | 54, _, _ => refine ⟨?_, ?_⟩ <;> simp (disch := omega) only [am_up_e, am_up_n]
    | 55, _, _ => refine ⟨?_, ?_⟩ <;> simp (disch := omega) only [am_up_e, am_up_n]
    | k + 56, _, h9 => exact absurd h9 (by omega)

